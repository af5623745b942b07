section
-- ===== PART A: goes FIRST, ahead of the names: the tables' words, and 'selects' of the private methods out of them =====
/-- a private method of a class that the tables say can be made, by its rows of tables_1 -/
def lw_okq (q : MethodName × Nat) : Prop := (q.1.cls ≠ "java/lang/invoke/MethodHandle" ∧ q.1.cls ≠ "java/lang/invoke/VarHandle") ∧ Cond.instantiable q.1.cls q.2 ∈ tables_1 ∧ Cond.privateMethod q.1 ∈ tables_1 ∧ Cond.instanceMethod q.1 ∈ tables_1
theorem lw_p0 : lw_okq (⟨"GridSums", "sideOf", "(JJJJJJ)I"⟩, 15) := ⟨⟨by decide +kernel, by decide +kernel⟩, List.mem_of_getElem? (i := 13) (by decide +kernel), List.mem_of_getElem? (i := 133) (by decide +kernel), List.mem_of_getElem? (i := 134) (by decide +kernel)⟩
theorem lw_p1 : lw_okq (⟨"GridSums", "isTold", "(I)Z"⟩, 15) := ⟨⟨by decide +kernel, by decide +kernel⟩, List.mem_of_getElem? (i := 13) (by decide +kernel), List.mem_of_getElem? (i := 178) (by decide +kernel), List.mem_of_getElem? (i := 179) (by decide +kernel)⟩
theorem lw_p2 : lw_okq (⟨"GridSums", "meetOfParallels", "(II)I"⟩, 15) := ⟨⟨by decide +kernel, by decide +kernel⟩, List.mem_of_getElem? (i := 13) (by decide +kernel), List.mem_of_getElem? (i := 182) (by decide +kernel), List.mem_of_getElem? (i := 183) (by decide +kernel)⟩
theorem lw_p3 : lw_okq (⟨"GridSums", "meetOfOthers", "(II)I"⟩, 15) := ⟨⟨by decide +kernel, by decide +kernel⟩, List.mem_of_getElem? (i := 13) (by decide +kernel), List.mem_of_getElem? (i := 197) (by decide +kernel), List.mem_of_getElem? (i := 198) (by decide +kernel)⟩
theorem lw_p4 : lw_okq (⟨"GridSums", "isPartOfSpan", "(LGridSums$Wide;)Z"⟩, 15) := ⟨⟨by decide +kernel, by decide +kernel⟩, List.mem_of_getElem? (i := 13) (by decide +kernel), List.mem_of_getElem? (i := 205) (by decide +kernel), List.mem_of_getElem? (i := 206) (by decide +kernel)⟩
theorem lw_p5 : lw_okq (⟨"GridSums$Division", "takeLessFromGreater", "()V"⟩, 5) := ⟨⟨by decide +kernel, by decide +kernel⟩, List.mem_of_getElem? (i := 52) (by decide +kernel), List.mem_of_getElem? (i := 249) (by decide +kernel), List.mem_of_getElem? (i := 250) (by decide +kernel)⟩
theorem lw_p6 : lw_okq (⟨"GridSums$Division", "divideAmounts", "(LGridSums$Wide;LGridSums$Wide;)V"⟩, 5) := ⟨⟨by decide +kernel, by decide +kernel⟩, List.mem_of_getElem? (i := 52) (by decide +kernel), List.mem_of_getElem? (i := 270) (by decide +kernel), List.mem_of_getElem? (i := 271) (by decide +kernel)⟩
theorem lw_p7 : lw_okq (⟨"GridSums", "isAnswerable", "(I)Z"⟩, 15) := ⟨⟨by decide +kernel, by decide +kernel⟩, List.mem_of_getElem? (i := 13) (by decide +kernel), List.mem_of_getElem? (i := 284) (by decide +kernel), List.mem_of_getElem? (i := 285) (by decide +kernel)⟩
theorem lw_p8 : lw_okq (⟨"GridSums$Division", "isOneMore", "(ZI)Z"⟩, 5) := ⟨⟨by decide +kernel, by decide +kernel⟩, List.mem_of_getElem? (i := 52) (by decide +kernel), List.mem_of_getElem? (i := 293) (by decide +kernel), List.mem_of_getElem? (i := 294) (by decide +kernel)⟩
theorem lw_p9 : lw_okq (⟨"GridSums$Division", "isOneMoreNearer", "(I)Z"⟩, 5) := ⟨⟨by decide +kernel, by decide +kernel⟩, List.mem_of_getElem? (i := 52) (by decide +kernel), List.mem_of_getElem? (i := 297) (by decide +kernel), List.mem_of_getElem? (i := 298) (by decide +kernel)⟩
theorem lw_p10 : lw_okq (⟨"GridSums", "cornerBehind", "(I)I"⟩, 15) := ⟨⟨by decide +kernel, by decide +kernel⟩, List.mem_of_getElem? (i := 13) (by decide +kernel), List.mem_of_getElem? (i := 309) (by decide +kernel), List.mem_of_getElem? (i := 310) (by decide +kernel)⟩
theorem lw_p11 : lw_okq (⟨"GridSums", "linesTold", "()I"⟩, 15) := ⟨⟨by decide +kernel, by decide +kernel⟩, List.mem_of_getElem? (i := 13) (by decide +kernel), List.mem_of_getElem? (i := 327) (by decide +kernel), List.mem_of_getElem? (i := 328) (by decide +kernel)⟩
theorem lw_p12 : lw_okq (⟨"GridSums$Wide", "highOfAmount", "()J"⟩, 2) := ⟨⟨by decide +kernel, by decide +kernel⟩, List.mem_of_getElem? (i := 27) (by decide +kernel), List.mem_of_getElem? (i := 346) (by decide +kernel), List.mem_of_getElem? (i := 347) (by decide +kernel)⟩
theorem lw_p13 : lw_okq (⟨"GridSums$Wide", "lowOfAmount", "()J"⟩, 2) := ⟨⟨by decide +kernel, by decide +kernel⟩, List.mem_of_getElem? (i := 27) (by decide +kernel), List.mem_of_getElem? (i := 350) (by decide +kernel), List.mem_of_getElem? (i := 351) (by decide +kernel)⟩
theorem lw_p14 : lw_okq (⟨"java/lang/Throwable", "fillInStackTrace", "(I)Ljava/lang/Throwable;"⟩, 6) := ⟨⟨by decide +kernel, by decide +kernel⟩, List.mem_of_getElem? (i := 391) (by decide +kernel), List.mem_of_getElem? (i := 389) (by decide +kernel), List.mem_of_getElem? (i := 390) (by decide +kernel)⟩
theorem lw_p15 : lw_okq (⟨"GridSums", "ratioByRule", "(JJJI)J"⟩, 15) := ⟨⟨by decide +kernel, by decide +kernel⟩, List.mem_of_getElem? (i := 13) (by decide +kernel), List.mem_of_getElem? (i := 442) (by decide +kernel), List.mem_of_getElem? (i := 443) (by decide +kernel)⟩
def lw_privs_1 : List (MethodName × Nat) := [(⟨"GridSums", "sideOf", "(JJJJJJ)I"⟩, 15), (⟨"GridSums", "isTold", "(I)Z"⟩, 15), (⟨"GridSums", "meetOfParallels", "(II)I"⟩, 15), (⟨"GridSums", "meetOfOthers", "(II)I"⟩, 15), (⟨"GridSums", "isPartOfSpan", "(LGridSums$Wide;)Z"⟩, 15), (⟨"GridSums$Division", "takeLessFromGreater", "()V"⟩, 5), (⟨"GridSums$Division", "divideAmounts", "(LGridSums$Wide;LGridSums$Wide;)V"⟩, 5), (⟨"GridSums", "isAnswerable", "(I)Z"⟩, 15), (⟨"GridSums$Division", "isOneMore", "(ZI)Z"⟩, 5), (⟨"GridSums$Division", "isOneMoreNearer", "(I)Z"⟩, 5), (⟨"GridSums", "cornerBehind", "(I)I"⟩, 15), (⟨"GridSums", "linesTold", "()I"⟩, 15), (⟨"GridSums$Wide", "highOfAmount", "()J"⟩, 2), (⟨"GridSums$Wide", "lowOfAmount", "()J"⟩, 2), (⟨"java/lang/Throwable", "fillInStackTrace", "(I)Ljava/lang/Throwable;"⟩, 6), (⟨"GridSums", "ratioByRule", "(JJJI)J"⟩, 15)]
theorem lw_r1 : ∀ q ∈ lw_privs_1, lw_okq q := List.forall_mem_cons.mpr ⟨lw_p0, List.forall_mem_cons.mpr ⟨lw_p1, List.forall_mem_cons.mpr ⟨lw_p2, List.forall_mem_cons.mpr ⟨lw_p3, List.forall_mem_cons.mpr ⟨lw_p4, List.forall_mem_cons.mpr ⟨lw_p5, List.forall_mem_cons.mpr ⟨lw_p6, List.forall_mem_cons.mpr ⟨lw_p7, List.forall_mem_cons.mpr ⟨lw_p8, List.forall_mem_cons.mpr ⟨lw_p9, List.forall_mem_cons.mpr ⟨lw_p10, List.forall_mem_cons.mpr ⟨lw_p11, List.forall_mem_cons.mpr ⟨lw_p12, List.forall_mem_cons.mpr ⟨lw_p13, List.forall_mem_cons.mpr ⟨lw_p14, List.forall_mem_cons.mpr ⟨lw_p15, fun _ h => absurd h List.not_mem_nil⟩⟩⟩⟩⟩⟩⟩⟩⟩⟩⟩⟩⟩⟩⟩⟩
theorem lw_p16 : lw_okq (⟨"GridSumsModel", "turned", "(JJJJJJ)I"⟩, 14) := ⟨⟨by decide +kernel, by decide +kernel⟩, List.mem_of_getElem? (i := 500) (by decide +kernel), List.mem_of_getElem? (i := 563) (by decide +kernel), List.mem_of_getElem? (i := 564) (by decide +kernel)⟩
theorem lw_p17 : lw_okq (⟨"GridSumsModel", "determinant", "(IJJJJ)V"⟩, 14) := ⟨⟨by decide +kernel, by decide +kernel⟩, List.mem_of_getElem? (i := 500) (by decide +kernel), List.mem_of_getElem? (i := 567) (by decide +kernel), List.mem_of_getElem? (i := 568) (by decide +kernel)⟩
theorem lw_p18 : lw_okq (⟨"GridSumsModel", "put", "(IJ)V"⟩, 14) := ⟨⟨by decide +kernel, by decide +kernel⟩, List.mem_of_getElem? (i := 500) (by decide +kernel), List.mem_of_getElem? (i := 571) (by decide +kernel), List.mem_of_getElem? (i := 572) (by decide +kernel)⟩
theorem lw_p19 : lw_okq (⟨"GridSumsModel", "times", "(III)V"⟩, 14) := ⟨⟨by decide +kernel, by decide +kernel⟩, List.mem_of_getElem? (i := 500) (by decide +kernel), List.mem_of_getElem? (i := 576) (by decide +kernel), List.mem_of_getElem? (i := 577) (by decide +kernel)⟩
theorem lw_p20 : lw_okq (⟨"GridSumsModel", "sum", "(III)V"⟩, 14) := ⟨⟨by decide +kernel, by decide +kernel⟩, List.mem_of_getElem? (i := 500) (by decide +kernel), List.mem_of_getElem? (i := 580) (by decide +kernel), List.mem_of_getElem? (i := 581) (by decide +kernel)⟩
theorem lw_p21 : lw_okq (⟨"GridSumsModel", "change", "(IIIZ)V"⟩, 14) := ⟨⟨by decide +kernel, by decide +kernel⟩, List.mem_of_getElem? (i := 500) (by decide +kernel), List.mem_of_getElem? (i := 584) (by decide +kernel), List.mem_of_getElem? (i := 585) (by decide +kernel)⟩
theorem lw_p22 : lw_okq (⟨"GridSumsModel", "compare", "(II)I"⟩, 14) := ⟨⟨by decide +kernel, by decide +kernel⟩, List.mem_of_getElem? (i := 500) (by decide +kernel), List.mem_of_getElem? (i := 588) (by decide +kernel), List.mem_of_getElem? (i := 589) (by decide +kernel)⟩
theorem lw_p23 : lw_okq (⟨"GridSumsModel", "isNothing", "(I)Z"⟩, 14) := ⟨⟨by decide +kernel, by decide +kernel⟩, List.mem_of_getElem? (i := 500) (by decide +kernel), List.mem_of_getElem? (i := 592) (by decide +kernel), List.mem_of_getElem? (i := 593) (by decide +kernel)⟩
theorem lw_p24 : lw_okq (⟨"GridSumsModel", "meet", "(II)I"⟩, 14) := ⟨⟨by decide +kernel, by decide +kernel⟩, List.mem_of_getElem? (i := 500) (by decide +kernel), List.mem_of_getElem? (i := 607) (by decide +kernel), List.mem_of_getElem? (i := 608) (by decide +kernel)⟩
theorem lw_p25 : lw_okq (⟨"GridSumsModel", "overlap", "(II)I"⟩, 14) := ⟨⟨by decide +kernel, by decide +kernel⟩, List.mem_of_getElem? (i := 500) (by decide +kernel), List.mem_of_getElem? (i := 611) (by decide +kernel), List.mem_of_getElem? (i := 612) (by decide +kernel)⟩
theorem lw_p26 : lw_okq (⟨"GridSumsModel", "place", "(IJJ)V"⟩, 14) := ⟨⟨by decide +kernel, by decide +kernel⟩, List.mem_of_getElem? (i := 500) (by decide +kernel), List.mem_of_getElem? (i := 618) (by decide +kernel), List.mem_of_getElem? (i := 619) (by decide +kernel)⟩
theorem lw_p27 : lw_okq (⟨"GridSumsModel", "copy", "(II)V"⟩, 14) := ⟨⟨by decide +kernel, by decide +kernel⟩, List.mem_of_getElem? (i := 500) (by decide +kernel), List.mem_of_getElem? (i := 622) (by decide +kernel), List.mem_of_getElem? (i := 623) (by decide +kernel)⟩
theorem lw_p28 : lw_okq (⟨"GridSumsModel", "reduce", "(I)V"⟩, 14) := ⟨⟨by decide +kernel, by decide +kernel⟩, List.mem_of_getElem? (i := 500) (by decide +kernel), List.mem_of_getElem? (i := 626) (by decide +kernel), List.mem_of_getElem? (i := 627) (by decide +kernel)⟩
theorem lw_p29 : lw_okq (⟨"GridSumsModel", "divisor", "(II)V"⟩, 14) := ⟨⟨by decide +kernel, by decide +kernel⟩, List.mem_of_getElem? (i := 500) (by decide +kernel), List.mem_of_getElem? (i := 630) (by decide +kernel), List.mem_of_getElem? (i := 631) (by decide +kernel)⟩
theorem lw_p30 : lw_okq (⟨"GridSumsModel", "isEven", "(I)Z"⟩, 14) := ⟨⟨by decide +kernel, by decide +kernel⟩, List.mem_of_getElem? (i := 500) (by decide +kernel), List.mem_of_getElem? (i := 634) (by decide +kernel), List.mem_of_getElem? (i := 635) (by decide +kernel)⟩
theorem lw_p31 : lw_okq (⟨"GridSumsModel", "halve", "(I)V"⟩, 14) := ⟨⟨by decide +kernel, by decide +kernel⟩, List.mem_of_getElem? (i := 500) (by decide +kernel), List.mem_of_getElem? (i := 638) (by decide +kernel), List.mem_of_getElem? (i := 639) (by decide +kernel)⟩
def lw_privs_2 : List (MethodName × Nat) := [(⟨"GridSumsModel", "turned", "(JJJJJJ)I"⟩, 14), (⟨"GridSumsModel", "determinant", "(IJJJJ)V"⟩, 14), (⟨"GridSumsModel", "put", "(IJ)V"⟩, 14), (⟨"GridSumsModel", "times", "(III)V"⟩, 14), (⟨"GridSumsModel", "sum", "(III)V"⟩, 14), (⟨"GridSumsModel", "change", "(IIIZ)V"⟩, 14), (⟨"GridSumsModel", "compare", "(II)I"⟩, 14), (⟨"GridSumsModel", "isNothing", "(I)Z"⟩, 14), (⟨"GridSumsModel", "meet", "(II)I"⟩, 14), (⟨"GridSumsModel", "overlap", "(II)I"⟩, 14), (⟨"GridSumsModel", "place", "(IJJ)V"⟩, 14), (⟨"GridSumsModel", "copy", "(II)V"⟩, 14), (⟨"GridSumsModel", "reduce", "(I)V"⟩, 14), (⟨"GridSumsModel", "divisor", "(II)V"⟩, 14), (⟨"GridSumsModel", "isEven", "(I)Z"⟩, 14), (⟨"GridSumsModel", "halve", "(I)V"⟩, 14)]
theorem lw_r2 : ∀ q ∈ lw_privs_2, lw_okq q := List.forall_mem_cons.mpr ⟨lw_p16, List.forall_mem_cons.mpr ⟨lw_p17, List.forall_mem_cons.mpr ⟨lw_p18, List.forall_mem_cons.mpr ⟨lw_p19, List.forall_mem_cons.mpr ⟨lw_p20, List.forall_mem_cons.mpr ⟨lw_p21, List.forall_mem_cons.mpr ⟨lw_p22, List.forall_mem_cons.mpr ⟨lw_p23, List.forall_mem_cons.mpr ⟨lw_p24, List.forall_mem_cons.mpr ⟨lw_p25, List.forall_mem_cons.mpr ⟨lw_p26, List.forall_mem_cons.mpr ⟨lw_p27, List.forall_mem_cons.mpr ⟨lw_p28, List.forall_mem_cons.mpr ⟨lw_p29, List.forall_mem_cons.mpr ⟨lw_p30, List.forall_mem_cons.mpr ⟨lw_p31, fun _ h => absurd h List.not_mem_nil⟩⟩⟩⟩⟩⟩⟩⟩⟩⟩⟩⟩⟩⟩⟩⟩
theorem lw_p32 : lw_okq (⟨"GridSumsModel", "twice", "(I)V"⟩, 14) := ⟨⟨by decide +kernel, by decide +kernel⟩, List.mem_of_getElem? (i := 500) (by decide +kernel), List.mem_of_getElem? (i := 642) (by decide +kernel), List.mem_of_getElem? (i := 643) (by decide +kernel)⟩
theorem lw_p33 : lw_okq (⟨"GridSumsModel", "divide", "(II)V"⟩, 14) := ⟨⟨by decide +kernel, by decide +kernel⟩, List.mem_of_getElem? (i := 500) (by decide +kernel), List.mem_of_getElem? (i := 646) (by decide +kernel), List.mem_of_getElem? (i := 647) (by decide +kernel)⟩
theorem lw_p34 : lw_okq (⟨"GridSumsModel", "bits", "(IZ)J"⟩, 14) := ⟨⟨by decide +kernel, by decide +kernel⟩, List.mem_of_getElem? (i := 500) (by decide +kernel), List.mem_of_getElem? (i := 655) (by decide +kernel), List.mem_of_getElem? (i := 656) (by decide +kernel)⟩
theorem lw_p35 : lw_okq (⟨"GridSumsModel", "limbOf", "(II)J"⟩, 14) := ⟨⟨by decide +kernel, by decide +kernel⟩, List.mem_of_getElem? (i := 500) (by decide +kernel), List.mem_of_getElem? (i := 663) (by decide +kernel), List.mem_of_getElem? (i := 664) (by decide +kernel)⟩
theorem lw_p36 : lw_okq (⟨"GridSumsModel", "limbs", "(I)I"⟩, 14) := ⟨⟨by decide +kernel, by decide +kernel⟩, List.mem_of_getElem? (i := 500) (by decide +kernel), List.mem_of_getElem? (i := 667) (by decide +kernel), List.mem_of_getElem? (i := 668) (by decide +kernel)⟩
theorem lw_p37 : lw_okq (⟨"GridSumsModel", "ratioOf", "(JJJI)J"⟩, 14) := ⟨⟨by decide +kernel, by decide +kernel⟩, List.mem_of_getElem? (i := 500) (by decide +kernel), List.mem_of_getElem? (i := 687) (by decide +kernel), List.mem_of_getElem? (i := 688) (by decide +kernel)⟩
theorem lw_p38 : lw_okq (⟨"GridSumsModel", "quotient", "(IZ)J"⟩, 14) := ⟨⟨by decide +kernel, by decide +kernel⟩, List.mem_of_getElem? (i := 500) (by decide +kernel), List.mem_of_getElem? (i := 691) (by decide +kernel), List.mem_of_getElem? (i := 692) (by decide +kernel)⟩
def lw_privs_3 : List (MethodName × Nat) := [(⟨"GridSumsModel", "twice", "(I)V"⟩, 14), (⟨"GridSumsModel", "divide", "(II)V"⟩, 14), (⟨"GridSumsModel", "bits", "(IZ)J"⟩, 14), (⟨"GridSumsModel", "limbOf", "(II)J"⟩, 14), (⟨"GridSumsModel", "limbs", "(I)I"⟩, 14), (⟨"GridSumsModel", "ratioOf", "(JJJI)J"⟩, 14), (⟨"GridSumsModel", "quotient", "(IZ)J"⟩, 14)]
theorem lw_r3 : ∀ q ∈ lw_privs_3, lw_okq q := List.forall_mem_cons.mpr ⟨lw_p32, List.forall_mem_cons.mpr ⟨lw_p33, List.forall_mem_cons.mpr ⟨lw_p34, List.forall_mem_cons.mpr ⟨lw_p35, List.forall_mem_cons.mpr ⟨lw_p36, List.forall_mem_cons.mpr ⟨lw_p37, List.forall_mem_cons.mpr ⟨lw_p38, fun _ h => absurd h List.not_mem_nil⟩⟩⟩⟩⟩⟩⟩
def lw_privs : List (MethodName × Nat) := lw_privs_1 ++ (lw_privs_2 ++ (lw_privs_3))
def lw_tbl : List Cond := k2_sels lw_privs ++ tables_1
theorem lw_privs_ok : ∀ q ∈ lw_privs, lw_okq q := by
  show ∀ q ∈ lw_privs_1 ++ (lw_privs_2 ++ (lw_privs_3)), lw_okq q
  exact List.forall_mem_append.mpr ⟨lw_r1, List.forall_mem_append.mpr ⟨lw_r2, lw_r3⟩⟩
end
section
/-! ===== BEGIN printed: names, fields, word lists, decode rows ===== -/
def RX0 : String := "GridSums$Division"
def TX0 : u_T := fun k => match k with
  | 0 => ("GridSums$Division", "quotient", "LGridSums$Wide;", true)
  | 1 => ("GridSums$Division", "rest", "LGridSums$Wide;", true)
  | 2 => ("GridSums$Division", "divisor", "LGridSums$Wide;", true)
  | 3 => ("GridSums$Division", "limit", "LGridSums$Wide;", true)
  | _ => ("GridSums$Division", "common", "LGridSums$Wide;", true)
def tyX0 : Nat → FieldType := fun k => match k with
  | 0 => .object "GridSums$Wide"
  | 1 => .object "GridSums$Wide"
  | 2 => .object "GridSums$Wide"
  | 3 => .object "GridSums$Wide"
  | _ => .object "GridSums$Wide"
abbrev wsX00 : List Cond := u_ws RX0 TX0 5
theorem nmX0 : ∀ a, a < 5 → ∀ b, b < 5 → a ≠ b → (TX0 a).2.1 ≠ (TX0 b).2.1 := by decide +kernel
theorem tyX0_ok : ∀ k, k < 5 → parseFieldDescriptor (TX0 k).2.2.1 = some (tyX0 k) := by decide +kernel
abbrev cX0_init : ByteArray := prog_2_method_1_code
def yX0_init : MethodName := ⟨RX0, "<init>", "()V"⟩
abbrev cX0_rounded : ByteArray := prog_2_method_2_code
def yX0_rounded : MethodName := ⟨RX0, "rounded", "(LGridSums$Wide;LGridSums$Wide;I)J"⟩
abbrev cX0_divideAmounts : ByteArray := prog_2_method_3_code
def yX0_divideAmounts : MethodName := ⟨RX0, "divideAmounts", "(LGridSums$Wide;LGridSums$Wide;)V"⟩
abbrev cX0_isOneMore : ByteArray := prog_2_method_4_code
def yX0_isOneMore : MethodName := ⟨RX0, "isOneMore", "(ZI)Z"⟩
abbrev cX0_isOneMoreNearer : ByteArray := prog_2_method_5_code
def yX0_isOneMoreNearer : MethodName := ⟨RX0, "isOneMoreNearer", "(I)Z"⟩
abbrev cX0_findCommon : ByteArray := prog_2_method_6_code
def yX0_findCommon : MethodName := ⟨RX0, "findCommon", "(LGridSums$Wide;LGridSums$Wide;)V"⟩
abbrev cX0_takeLessFromGreater : ByteArray := prog_2_method_7_code
def yX0_takeLessFromGreater : MethodName := ⟨RX0, "takeLessFromGreater", "()V"⟩
abbrev cX0_takeCommonOut : ByteArray := prog_2_method_8_code
def yX0_takeCommonOut : MethodName := ⟨RX0, "takeCommonOut", "(LGridSums$Wide;)V"⟩
def RX1 : String := "GridSums$Fraction"
def TX1 : u_T := fun k => match k with
  | 0 => ("GridSums$Fraction", "upper", "LGridSums$Wide;", true)
  | _ => ("GridSums$Fraction", "lower", "LGridSums$Wide;", true)
def tyX1 : Nat → FieldType := fun k => match k with
  | 0 => .object "GridSums$Wide"
  | _ => .object "GridSums$Wide"
abbrev wsX10 : List Cond := u_ws RX1 TX1 2
theorem nmX1 : ∀ a, a < 2 → ∀ b, b < 2 → a ≠ b → (TX1 a).2.1 ≠ (TX1 b).2.1 := by decide +kernel
theorem tyX1_ok : ∀ k, k < 2 → parseFieldDescriptor (TX1 k).2.2.1 = some (tyX1 k) := by decide +kernel
abbrev cX1_init : ByteArray := prog_3_method_1_code
def yX1_init : MethodName := ⟨RX1, "<init>", "()V"⟩
abbrev cX1_putWhole : ByteArray := prog_3_method_2_code
def yX1_putWhole : MethodName := ⟨RX1, "putWhole", "(J)V"⟩
abbrev cX1_putOnWay : ByteArray := prog_3_method_3_code
def yX1_putOnWay : MethodName := ⟨RX1, "putOnWay", "(JJLGridSums$Wide;LGridSums$Wide;)V"⟩
abbrev cX1_reduce : ByteArray := prog_3_method_4_code
def yX1_reduce : MethodName := ⟨RX1, "reduce", "(LGridSums$Division;)V"⟩
def RX2 : String := "GridSums$Wide"
def TX2 : u_T := fun k => match k with
  | 0 => ("GridSums$Wide", "high", "J", false)
  | _ => ("GridSums$Wide", "low", "J", false)
def tyX2 : Nat → FieldType := fun k => match k with
  | 0 => .long
  | _ => .long
abbrev wsX20 : List Cond := u_ws RX2 TX2 2
theorem nmX2 : ∀ a, a < 2 → ∀ b, b < 2 → a ≠ b → (TX2 a).2.1 ≠ (TX2 b).2.1 := by decide +kernel
theorem tyX2_ok : ∀ k, k < 2 → parseFieldDescriptor (TX2 k).2.2.1 = some (tyX2 k) := by decide +kernel
abbrev cX2_init : ByteArray := prog_4_method_1_code
def yX2_init : MethodName := ⟨RX2, "<init>", "()V"⟩
abbrev cX2_put : ByteArray := prog_4_method_2_code
def yX2_put : MethodName := ⟨RX2, "put", "(J)V"⟩
abbrev cX2_copy : ByteArray := prog_4_method_3_code
def yX2_copy : MethodName := ⟨RX2, "copy", "(LGridSums$Wide;)V"⟩
abbrev cX2_copyAmount : ByteArray := prog_4_method_4_code
def yX2_copyAmount : MethodName := ⟨RX2, "copyAmount", "(LGridSums$Wide;)V"⟩
abbrev cX2_sign : ByteArray := prog_4_method_5_code
def yX2_sign : MethodName := ⟨RX2, "sign", "()I"⟩
abbrev cX2_isOdd : ByteArray := prog_4_method_6_code
def yX2_isOdd : MethodName := ⟨RX2, "isOdd", "()Z"⟩
abbrev cX2_isOne : ByteArray := prog_4_method_7_code
def yX2_isOne : MethodName := ⟨RX2, "isOne", "()Z"⟩
abbrev cX2_compare : ByteArray := prog_4_method_8_code
def yX2_compare : MethodName := ⟨RX2, "compare", "(LGridSums$Wide;)I"⟩
abbrev cX2_negate : ByteArray := prog_4_method_9_code
def yX2_negate : MethodName := ⟨RX2, "negate", "()V"⟩
abbrev cX2_addParts : ByteArray := prog_4_method_10_code
def yX2_addParts : MethodName := ⟨RX2, "addParts", "(JJ)V"⟩
abbrev cX2_subtract : ByteArray := prog_4_method_11_code
def yX2_subtract : MethodName := ⟨RX2, "subtract", "(LGridSums$Wide;)V"⟩
abbrev cX2_addProduct : ByteArray := prog_4_method_12_code
def yX2_addProduct : MethodName := ⟨RX2, "addProduct", "(JJ)V"⟩
abbrev cX2_addSpan : ByteArray := prog_4_method_13_code
def yX2_addSpan : MethodName := ⟨RX2, "addSpan", "(JJJJ)V"⟩
abbrev cX2_putSpan : ByteArray := prog_4_method_14_code
def yX2_putSpan : MethodName := ⟨RX2, "putSpan", "(JJJJ)V"⟩
abbrev cX2_addScaled : ByteArray := prog_4_method_15_code
def yX2_addScaled : MethodName := ⟨RX2, "addScaled", "(LGridSums$Wide;J)V"⟩
abbrev cX2_twice : ByteArray := prog_4_method_16_code
def yX2_twice : MethodName := ⟨RX2, "twice", "()V"⟩
abbrev cX2_half : ByteArray := prog_4_method_17_code
def yX2_half : MethodName := ⟨RX2, "half", "()V"⟩
abbrev cX2_setLowestBit : ByteArray := prog_4_method_18_code
def yX2_setLowestBit : MethodName := ⟨RX2, "setLowestBit", "()V"⟩
abbrev cX2_limbs : ByteArray := prog_4_method_19_code
def yX2_limbs : MethodName := ⟨RX2, "limbs", "()I"⟩
abbrev cX2_limbOfAmount : ByteArray := prog_4_method_20_code
def yX2_limbOfAmount : MethodName := ⟨RX2, "limbOfAmount", "(I)J"⟩
abbrev cX2_lowOfAmount : ByteArray := prog_4_method_21_code
def yX2_lowOfAmount : MethodName := ⟨RX2, "lowOfAmount", "()J"⟩
abbrev cX2_highOfAmount : ByteArray := prog_4_method_22_code
def yX2_highOfAmount : MethodName := ⟨RX2, "highOfAmount", "()J"⟩
abbrev cX2_isBelowUnsigned : ByteArray := prog_4_method_23_code
def yX2_isBelowUnsigned : MethodName := ⟨RX2, "isBelowUnsigned", "(JJ)Z"⟩
abbrev cX2_highOfProduct : ByteArray := prog_4_method_24_code
def yX2_highOfProduct : MethodName := ⟨RX2, "highOfProduct", "(JJ)J"⟩
def RX3 : String := "GridSums"
def TX3 : u_T := fun k => match k with
  | 0 => ("GridSums", "told", "[Z", true)
  | 1 => ("GridSums", "startX", "[J", true)
  | 2 => ("GridSums", "startY", "[J", true)
  | 3 => ("GridSums", "wayX", "[J", true)
  | 4 => ("GridSums", "wayY", "[J", true)
  | 5 => ("GridSums", "cornerX", "[J", true)
  | 6 => ("GridSums", "cornerY", "[J", true)
  | 7 => ("GridSums", "corners", "I", false)
  | 8 => ("GridSums", "placeAtHand", "Z", false)
  | 9 => ("GridSums", "handX", "LGridSums$Fraction;", true)
  | 10 => ("GridSums", "handY", "LGridSums$Fraction;", true)
  | 11 => ("GridSums", "division", "LGridSums$Division;", true)
  | 12 => ("GridSums", "span", "LGridSums$Wide;", true)
  | 13 => ("GridSums", "partOfFirst", "LGridSums$Wide;", true)
  | _ => ("GridSums", "partOfSecond", "LGridSums$Wide;", true)
def tyX3 : Nat → FieldType := fun k => match k with
  | 0 => .array .boolean
  | 1 => .array .long
  | 2 => .array .long
  | 3 => .array .long
  | 4 => .array .long
  | 5 => .array .long
  | 6 => .array .long
  | 7 => .int
  | 8 => .boolean
  | 9 => .object "GridSums$Fraction"
  | 10 => .object "GridSums$Fraction"
  | 11 => .object "GridSums$Division"
  | 12 => .object "GridSums$Wide"
  | 13 => .object "GridSums$Wide"
  | _ => .object "GridSums$Wide"
abbrev wsX30 : List Cond := u_ws RX3 TX3 15
theorem nmX3 : ∀ a, a < 15 → ∀ b, b < 15 → a ≠ b → (TX3 a).2.1 ≠ (TX3 b).2.1 := by decide +kernel
theorem tyX3_ok : ∀ k, k < 15 → parseFieldDescriptor (TX3 k).2.2.1 = some (tyX3 k) := by decide +kernel
abbrev cX3_init : ByteArray := prog_1_method_1_code
def yX3_init : MethodName := ⟨RX3, "<init>", "()V"⟩
abbrev cX3_turn : ByteArray := prog_1_method_2_code
def yX3_turn : MethodName := ⟨RX3, "turn", "(JJJJJJ)I"⟩
abbrev cX3_line : ByteArray := prog_1_method_3_code
def yX3_line : MethodName := ⟨RX3, "line", "(IJJJJ)Z"⟩
abbrev cX3_cross : ByteArray := prog_1_method_4_code
def yX3_cross : MethodName := ⟨RX3, "cross", "(II)I"⟩
abbrev cX3_at : ByteArray := prog_1_method_5_code
def yX3_at : MethodName := ⟨RX3, "at", "(I)J"⟩
abbrev cX3_exact : ByteArray := prog_1_method_6_code
def yX3_exact : MethodName := ⟨RX3, "exact", "(III)J"⟩
abbrev cX3_corner : ByteArray := prog_1_method_7_code
def yX3_corner : MethodName := ⟨RX3, "corner", "(JJ)Z"⟩
abbrev cX3_area2 : ByteArray := prog_1_method_8_code
def yX3_area2 : MethodName := ⟨RX3, "area2", "(I)J"⟩
abbrev cX3_inside : ByteArray := prog_1_method_9_code
def yX3_inside : MethodName := ⟨RX3, "inside", "(JJ)I"⟩
abbrev cX3_over : ByteArray := prog_1_method_10_code
def yX3_over : MethodName := ⟨RX3, "over", "(JJI)J"⟩
abbrev cX3_product : ByteArray := prog_1_method_11_code
def yX3_product : MethodName := ⟨RX3, "product", "(JJI)J"⟩
abbrev cX3_ratio : ByteArray := prog_1_method_12_code
def yX3_ratio : MethodName := ⟨RX3, "ratio", "(JJJI)J"⟩
abbrev cX3_share : ByteArray := prog_1_method_13_code
def yX3_share : MethodName := ⟨RX3, "share", "(JII)J"⟩
abbrev cX3_digit : ByteArray := prog_1_method_14_code
def yX3_digit : MethodName := ⟨RX3, "digit", "(JII)I"⟩
abbrev cX3_clear : ByteArray := prog_1_method_15_code
def yX3_clear : MethodName := ⟨RX3, "clear", "()V"⟩
abbrev cX3_count : ByteArray := prog_1_method_16_code
def yX3_count : MethodName := ⟨RX3, "count", "(I)I"⟩
abbrev cX3_isOnGrid : ByteArray := prog_1_method_17_code
def yX3_isOnGrid : MethodName := ⟨RX3, "isOnGrid", "(JJ)Z"⟩
abbrev cX3_isBetween : ByteArray := prog_1_method_18_code
def yX3_isBetween : MethodName := ⟨RX3, "isBetween", "(JJJ)Z"⟩
abbrev cX3_isTold : ByteArray := prog_1_method_19_code
def yX3_isTold : MethodName := ⟨RX3, "isTold", "(I)Z"⟩
abbrev cX3_isAnswerable : ByteArray := prog_1_method_20_code
def yX3_isAnswerable : MethodName := ⟨RX3, "isAnswerable", "(I)Z"⟩
abbrev cX3_linesTold : ByteArray := prog_1_method_21_code
def yX3_linesTold : MethodName := ⟨RX3, "linesTold", "()I"⟩
abbrev cX3_cornerBehind : ByteArray := prog_1_method_22_code
def yX3_cornerBehind : MethodName := ⟨RX3, "cornerBehind", "(I)I"⟩
abbrev cX3_sideOf : ByteArray := prog_1_method_23_code
def yX3_sideOf : MethodName := ⟨RX3, "sideOf", "(JJJJJJ)I"⟩
abbrev cX3_meetsRay : ByteArray := prog_1_method_24_code
def yX3_meetsRay : MethodName := ⟨RX3, "meetsRay", "(JJJI)Z"⟩
abbrev cX3_meetOfOthers : ByteArray := prog_1_method_25_code
def yX3_meetOfOthers : MethodName := ⟨RX3, "meetOfOthers", "(II)I"⟩
abbrev cX3_isPartOfSpan : ByteArray := prog_1_method_26_code
def yX3_isPartOfSpan : MethodName := ⟨RX3, "isPartOfSpan", "(LGridSums$Wide;)Z"⟩
abbrev cX3_meetOfParallels : ByteArray := prog_1_method_27_code
def yX3_meetOfParallels : MethodName := ⟨RX3, "meetOfParallels", "(II)I"⟩
abbrev cX3_ratioByRule : ByteArray := prog_1_method_28_code
def yX3_ratioByRule : MethodName := ⟨RX3, "ratioByRule", "(JJJI)J"⟩
abbrev cX3_limbOf : ByteArray := prog_1_method_29_code
def yX3_limbOf : MethodName := ⟨RX3, "limbOf", "(LGridSums$Wide;I)J"⟩
def RX4 : String := "GridSumsModel"
def TX4 : u_T := fun k => match k with
  | 0 => ("GridSumsModel", "code", "I", false)
  | 1 => ("GridSumsModel", "w", "[J", true)
  | 2 => ("GridSumsModel", "sign", "[I", true)
  | 3 => ("GridSumsModel", "made", "[J", true)
  | 4 => ("GridSumsModel", "told", "[Z", true)
  | 5 => ("GridSumsModel", "fromX", "[J", true)
  | 6 => ("GridSumsModel", "fromY", "[J", true)
  | 7 => ("GridSumsModel", "toX", "[J", true)
  | 8 => ("GridSumsModel", "toY", "[J", true)
  | 9 => ("GridSumsModel", "lines", "I", false)
  | 10 => ("GridSumsModel", "cornerX", "[J", true)
  | 11 => ("GridSumsModel", "cornerY", "[J", true)
  | 12 => ("GridSumsModel", "corners", "I", false)
  | _ => ("GridSumsModel", "atHand", "Z", false)
def tyX4 : Nat → FieldType := fun k => match k with
  | 0 => .int
  | 1 => .array .long
  | 2 => .array .int
  | 3 => .array .long
  | 4 => .array .boolean
  | 5 => .array .long
  | 6 => .array .long
  | 7 => .array .long
  | 8 => .array .long
  | 9 => .int
  | 10 => .array .long
  | 11 => .array .long
  | 12 => .int
  | _ => .boolean
abbrev wsX40 : List Cond := u_ws RX4 TX4 14
theorem nmX4 : ∀ a, a < 14 → ∀ b, b < 14 → a ≠ b → (TX4 a).2.1 ≠ (TX4 b).2.1 := by decide +kernel
theorem tyX4_ok : ∀ k, k < 14 → parseFieldDescriptor (TX4 k).2.2.1 = some (tyX4 k) := by decide +kernel
abbrev cX4_init : ByteArray := prog_6_method_1_code
def yX4_init : MethodName := ⟨RX4, "<init>", "()V"⟩
abbrev cX4_thrown : ByteArray := prog_6_method_2_code
def yX4_thrown : MethodName := ⟨RX4, "thrown", "()I"⟩
abbrev cX4_put : ByteArray := prog_6_method_3_code
def yX4_put : MethodName := ⟨RX4, "put", "(IJ)V"⟩
abbrev cX4_copy : ByteArray := prog_6_method_4_code
def yX4_copy : MethodName := ⟨RX4, "copy", "(II)V"⟩
abbrev cX4_compare : ByteArray := prog_6_method_5_code
def yX4_compare : MethodName := ⟨RX4, "compare", "(II)I"⟩
abbrev cX4_change : ByteArray := prog_6_method_6_code
def yX4_change : MethodName := ⟨RX4, "change", "(IIIZ)V"⟩
abbrev cX4_isNothing : ByteArray := prog_6_method_7_code
def yX4_isNothing : MethodName := ⟨RX4, "isNothing", "(I)Z"⟩
abbrev cX4_sum : ByteArray := prog_6_method_8_code
def yX4_sum : MethodName := ⟨RX4, "sum", "(III)V"⟩
abbrev cX4_times : ByteArray := prog_6_method_9_code
def yX4_times : MethodName := ⟨RX4, "times", "(III)V"⟩
abbrev cX4_twice : ByteArray := prog_6_method_10_code
def yX4_twice : MethodName := ⟨RX4, "twice", "(I)V"⟩
abbrev cX4_halve : ByteArray := prog_6_method_11_code
def yX4_halve : MethodName := ⟨RX4, "halve", "(I)V"⟩
abbrev cX4_isEven : ByteArray := prog_6_method_12_code
def yX4_isEven : MethodName := ⟨RX4, "isEven", "(I)Z"⟩
abbrev cX4_divide : ByteArray := prog_6_method_13_code
def yX4_divide : MethodName := ⟨RX4, "divide", "(II)V"⟩
abbrev cX4_divisor : ByteArray := prog_6_method_14_code
def yX4_divisor : MethodName := ⟨RX4, "divisor", "(II)V"⟩
abbrev cX4_reduce : ByteArray := prog_6_method_15_code
def yX4_reduce : MethodName := ⟨RX4, "reduce", "(I)V"⟩
abbrev cX4_determinant : ByteArray := prog_6_method_16_code
def yX4_determinant : MethodName := ⟨RX4, "determinant", "(IJJJJ)V"⟩
abbrev cX4_limbs : ByteArray := prog_6_method_17_code
def yX4_limbs : MethodName := ⟨RX4, "limbs", "(I)I"⟩
abbrev cX4_limbOf : ByteArray := prog_6_method_18_code
def yX4_limbOf : MethodName := ⟨RX4, "limbOf", "(II)J"⟩
abbrev cX4_bits : ByteArray := prog_6_method_19_code
def yX4_bits : MethodName := ⟨RX4, "bits", "(IZ)J"⟩
abbrev cX4_isPlace : ByteArray := prog_6_method_20_code
def yX4_isPlace : MethodName := ⟨RX4, "isPlace", "(JJ)Z"⟩
abbrev cX4_turned : ByteArray := prog_6_method_21_code
def yX4_turned : MethodName := ⟨RX4, "turned", "(JJJJJJ)I"⟩
abbrev cX4_turn : ByteArray := prog_6_method_22_code
def yX4_turn : MethodName := ⟨RX4, "turn", "(JJJJJJ)I"⟩
abbrev cX4_isLine : ByteArray := prog_6_method_23_code
def yX4_isLine : MethodName := ⟨RX4, "isLine", "(I)Z"⟩
abbrev cX4_line : ByteArray := prog_6_method_24_code
def yX4_line : MethodName := ⟨RX4, "line", "(IJJJJ)Z"⟩
abbrev cX4_less : ByteArray := prog_6_method_25_code
def yX4_less : MethodName := ⟨RX4, "less", "(JJ)J"⟩
abbrev cX4_overlap : ByteArray := prog_6_method_26_code
def yX4_overlap : MethodName := ⟨RX4, "overlap", "(II)I"⟩
abbrev cX4_place : ByteArray := prog_6_method_27_code
def yX4_place : MethodName := ⟨RX4, "place", "(IJJ)V"⟩
abbrev cX4_meet : ByteArray := prog_6_method_28_code
def yX4_meet : MethodName := ⟨RX4, "meet", "(II)I"⟩
abbrev cX4_cross : ByteArray := prog_6_method_29_code
def yX4_cross : MethodName := ⟨RX4, "cross", "(II)I"⟩
abbrev cX4_at : ByteArray := prog_6_method_30_code
def yX4_at : MethodName := ⟨RX4, "at", "(I)J"⟩
abbrev cX4_exact : ByteArray := prog_6_method_31_code
def yX4_exact : MethodName := ⟨RX4, "exact", "(III)J"⟩
abbrev cX4_corner : ByteArray := prog_6_method_32_code
def yX4_corner : MethodName := ⟨RX4, "corner", "(JJ)Z"⟩
abbrev cX4_area2 : ByteArray := prog_6_method_33_code
def yX4_area2 : MethodName := ⟨RX4, "area2", "(I)J"⟩
abbrev cX4_inside : ByteArray := prog_6_method_34_code
def yX4_inside : MethodName := ⟨RX4, "inside", "(JJ)I"⟩
abbrev cX4_quotient : ByteArray := prog_6_method_35_code
def yX4_quotient : MethodName := ⟨RX4, "quotient", "(IZ)J"⟩
abbrev cX4_ratioOf : ByteArray := prog_6_method_36_code
def yX4_ratioOf : MethodName := ⟨RX4, "ratioOf", "(JJJI)J"⟩
abbrev cX4_over : ByteArray := prog_6_method_37_code
def yX4_over : MethodName := ⟨RX4, "over", "(JJI)J"⟩
abbrev cX4_product : ByteArray := prog_6_method_38_code
def yX4_product : MethodName := ⟨RX4, "product", "(JJI)J"⟩
abbrev cX4_ratio : ByteArray := prog_6_method_39_code
def yX4_ratio : MethodName := ⟨RX4, "ratio", "(JJJI)J"⟩
abbrev cX4_share : ByteArray := prog_6_method_40_code
def yX4_share : MethodName := ⟨RX4, "share", "(JII)J"⟩
abbrev cX4_digit : ByteArray := prog_6_method_41_code
def yX4_digit : MethodName := ⟨RX4, "digit", "(JII)I"⟩
abbrev cX4_clear : ByteArray := prog_6_method_42_code
def yX4_clear : MethodName := ⟨RX4, "clear", "()V"⟩
abbrev cX4_count : ByteArray := prog_6_method_43_code
def yX4_count : MethodName := ⟨RX4, "count", "(I)I"⟩
def RJ9 : String := "java/lang/Math"
def TJ9 : u_T := fun k => match k with
  | _ => ("", "", "", false)
def tyJ9 : Nat → FieldType := fun k => match k with
  | _ => .int
abbrev wsJ90 : List Cond := u_ws RJ9 TJ9 0
theorem nmJ9 : ∀ a, a < 0 → ∀ b, b < 0 → a ≠ b → (TJ9 a).2.1 ≠ (TJ9 b).2.1 := by decide +kernel
theorem tyJ9_ok : ∀ k, k < 0 → parseFieldDescriptor (TJ9 k).2.2.1 = some (tyJ9 k) := by decide +kernel
abbrev cJ9_floorDiv_f86c9 : ByteArray := prog_10_method_49_code
def yJ9_floorDiv_f86c9 : MethodName := ⟨RJ9, "floorDiv", "(JJ)J"⟩
abbrev cJ9_floorMod_f86c9 : ByteArray := prog_10_method_52_code
def yJ9_floorMod_f86c9 : MethodName := ⟨RJ9, "floorMod", "(JJ)J"⟩
abbrev cJ9_max_f86c9 : ByteArray := prog_10_method_66_code
def yJ9_max_f86c9 : MethodName := ⟨RJ9, "max", "(JJ)J"⟩
abbrev cJ9_min_f86c9 : ByteArray := prog_10_method_70_code
def yJ9_min_f86c9 : MethodName := ⟨RJ9, "min", "(JJ)J"⟩
def RJ0 : String := "java/lang/String"
def TJ0 : u_T := fun k => match k with
  | _ => ("", "", "", false)
def tyJ0 : Nat → FieldType := fun k => match k with
  | _ => .int
abbrev wsJ00 : List Cond := u_ws RJ0 TJ0 0
theorem nmJ0 : ∀ a, a < 0 → ∀ b, b < 0 → a ≠ b → (TJ0 a).2.1 ≠ (TJ0 b).2.1 := by decide +kernel
theorem tyJ0_ok : ∀ k, k < 0 → parseFieldDescriptor (TJ0 k).2.2.1 = some (tyJ0 k) := by decide +kernel
def RL : String := "GridSumsLaw"
abbrev cL_exact : ByteArray := method_3_code
def yL_exact : MethodName := ⟨RL, "exact", "(LGridSums;III[J)I"⟩
abbrev cL_area2 : ByteArray := method_4_code
def yL_area2 : MethodName := ⟨RL, "area2", "(LGridSums;I[J)I"⟩
abbrev cL_over : ByteArray := method_5_code
def yL_over : MethodName := ⟨RL, "over", "(LGridSums;JJI[J)I"⟩
abbrev cL_product : ByteArray := method_6_code
def yL_product : MethodName := ⟨RL, "product", "(LGridSums;JJI[J)I"⟩
abbrev cL_ratio : ByteArray := method_7_code
def yL_ratio : MethodName := ⟨RL, "ratio", "(LGridSums;JJJI[J)I"⟩
abbrev cL_share : ByteArray := method_8_code
def yL_share : MethodName := ⟨RL, "share", "(LGridSums;JII[J)I"⟩
abbrev cL_digit : ByteArray := method_9_code
def yL_digit : MethodName := ⟨RL, "digit", "(LGridSums;JII[J)I"⟩
abbrev cL_law : ByteArray := code
def yL_law : MethodName := ⟨RL, "law", "([I)Z"⟩
def wsL_law0_r1 : List Cond := [Cond.classLink RL 8 RX3, Cond.instantiable RX3 15, Cond.initialized RX3, Cond.classLink RL 41 RX4, Cond.instantiable RX4 14, Cond.initialized RX4, Cond.arrayClass .long, Cond.constantLong RL 44 (4294967295), Cond.methodLink RL 40 yX3_init, Cond.instanceMethod yX3_init, Cond.code yX3_init cX3_init 1 none, Cond.methodLink RX3 1 objectInit, Cond.instanceMethod objectInit, Cond.code objectInit ⟨#[0xb1]⟩ 1 none, Cond.arrayClass .boolean, Cond.fieldLink RX3 9 "GridSums" "told" "[Z", Cond.fieldLink RX3 13 "GridSums" "startX" "[J", Cond.fieldLink RX3 17 "GridSums" "startY" "[J", Cond.fieldLink RX3 20 "GridSums" "wayX" "[J", Cond.fieldLink RX3 23 "GridSums" "wayY" "[J", Cond.fieldLink RX3 26 "GridSums" "cornerX" "[J", Cond.fieldLink RX3 29 "GridSums" "cornerY" "[J", Cond.classLink RX3 32 RX1, Cond.instantiable RX1 2]
def wsL_law0_r2 : List Cond := [Cond.initialized RX1, Cond.fieldLink RX3 35 "GridSums" "handX" "LGridSums$Fraction;", Cond.fieldLink RX3 39 "GridSums" "handY" "LGridSums$Fraction;", Cond.classLink RX3 42 RX0, Cond.instantiable RX0 5, Cond.initialized RX0, Cond.fieldLink RX3 45 "GridSums" "division" "LGridSums$Division;", Cond.classLink RX3 49 RX2, Cond.instantiable RX2 2, Cond.initialized RX2, Cond.fieldLink RX3 52 "GridSums" "span" "LGridSums$Wide;", Cond.fieldLink RX3 56 "GridSums" "partOfFirst" "LGridSums$Wide;", Cond.fieldLink RX3 59 "GridSums" "partOfSecond" "LGridSums$Wide;", Cond.fieldLink RX3 62 "GridSums" "corners" "I", Cond.fieldLink RX3 66 "GridSums" "placeAtHand" "Z", Cond.instanceMethod yX1_init, Cond.code yX1_init cX1_init 1 none, Cond.methodLink RX1 1 objectInit, Cond.classLink RX1 7 RX2, Cond.fieldLink RX1 10 "GridSums$Fraction" "upper" "LGridSums$Wide;", Cond.fieldLink RX1 16 "GridSums$Fraction" "lower" "LGridSums$Wide;", Cond.instanceMethod yX2_init, Cond.code yX2_init cX2_init 1 none, Cond.methodLink RX2 3 objectInit]
def wsL_law0_r3 : List Cond := [Cond.instanceMethod yX0_init, Cond.code yX0_init cX0_init 1 none, Cond.methodLink RX0 3 objectInit, Cond.classLink RX0 9 RX2, Cond.fieldLink RX0 12 "GridSums$Division" "quotient" "LGridSums$Wide;", Cond.fieldLink RX0 18 "GridSums$Division" "rest" "LGridSums$Wide;", Cond.fieldLink RX0 21 "GridSums$Division" "divisor" "LGridSums$Wide;", Cond.fieldLink RX0 24 "GridSums$Division" "limit" "LGridSums$Wide;", Cond.fieldLink RX0 27 "GridSums$Division" "common" "LGridSums$Wide;", Cond.methodLink RL 43 yX4_init, Cond.instanceMethod yX4_init, Cond.code yX4_init cX4_init 1 none, Cond.methodLink RX4 1 objectInit, Cond.fieldLink RX4 7 "GridSumsModel" "w" "[J", Cond.arrayClass .int, Cond.fieldLink RX4 13 "GridSumsModel" "sign" "[I", Cond.fieldLink RX4 17 "GridSumsModel" "made" "[J", Cond.fieldLink RX4 20 "GridSumsModel" "told" "[Z", Cond.fieldLink RX4 24 "GridSumsModel" "fromX" "[J", Cond.fieldLink RX4 27 "GridSumsModel" "fromY" "[J", Cond.fieldLink RX4 30 "GridSumsModel" "toX" "[J", Cond.fieldLink RX4 33 "GridSumsModel" "toY" "[J", Cond.fieldLink RX4 36 "GridSumsModel" "cornerX" "[J", Cond.fieldLink RX4 39 "GridSumsModel" "cornerY" "[J"]
def wsL_law0_r4 : List Cond := [Cond.methodLink RL 46 yX3_turn, Cond.instanceMethod yX3_turn, Cond.selects RX3 yX3_turn yX3_turn, Cond.code yX3_turn cX3_turn 13 (some .int), Cond.methodLink RX3 70 yX3_isOnGrid, Cond.static yX3_isOnGrid, Cond.code yX3_isOnGrid cX3_isOnGrid 4 (some .boolean), Cond.constantLong RX3 165 (-1099511627776), Cond.constantLong RX3 167 (1099511627776), Cond.methodLink RX3 74 yX3_sideOf, Cond.instanceMethod yX3_sideOf, Cond.selects RX3 yX3_sideOf yX3_sideOf, Cond.code yX3_sideOf cX3_sideOf 13 (some .int), Cond.methodLink RX3 82 yX2_putSpan, Cond.instanceMethod yX2_putSpan, Cond.selects RX2 yX2_putSpan yX2_putSpan, Cond.code yX2_putSpan cX2_putSpan 9 none, Cond.methodLink RX2 42 yX2_put, Cond.instanceMethod yX2_put, Cond.selects RX2 yX2_put yX2_put, Cond.code yX2_put cX2_put 3 none, Cond.fieldLink RX2 9 "GridSums$Wide" "low" "J", Cond.constantLong RX2 15 (-1), Cond.fieldLink RX2 17 "GridSums$Wide" "high" "J"]
def wsL_law0_r5 : List Cond := [Cond.methodLink RX2 46 yX2_addSpan, Cond.instanceMethod yX2_addSpan, Cond.selects RX2 yX2_addSpan yX2_addSpan, Cond.code yX2_addSpan cX2_addSpan 9 none, Cond.methodLink RX2 39 yX2_addProduct, Cond.instanceMethod yX2_addProduct, Cond.selects RX2 yX2_addProduct yX2_addProduct, Cond.code yX2_addProduct cX2_addProduct 5 none, Cond.methodLink RX2 31 yX2_highOfProduct, Cond.static yX2_highOfProduct, Cond.code yX2_highOfProduct cX2_highOfProduct 16 (some .long), Cond.constantLong RX2 57 (4294967295), Cond.methodLink RX2 35 yX2_addParts, Cond.instanceMethod yX2_addParts, Cond.selects RX2 yX2_addParts yX2_addParts, Cond.code yX2_addParts cX2_addParts 5 none, Cond.methodLink RX2 27 yX2_isBelowUnsigned, Cond.static yX2_isBelowUnsigned, Cond.code yX2_isBelowUnsigned cX2_isBelowUnsigned 4 (some .boolean), Cond.constantLong RX2 59 (-9223372036854775808), Cond.methodLink RX3 86 yX2_sign, Cond.instanceMethod yX2_sign, Cond.selects RX2 yX2_sign yX2_sign, Cond.code yX2_sign cX2_sign 1 (some .int)]
def wsL_law0_r6 : List Cond := [Cond.methodLink RL 50 yX4_turn, Cond.instanceMethod yX4_turn, Cond.selects RX4 yX4_turn yX4_turn, Cond.code yX4_turn cX4_turn 13 (some .int), Cond.fieldLink RX4 42 "GridSumsModel" "code" "I", Cond.methodLink RX4 103 yX4_isPlace, Cond.static yX4_isPlace, Cond.code yX4_isPlace cX4_isPlace 4 (some .boolean), Cond.constantLong RX4 95 (-1099511627776), Cond.constantLong RX4 97 (1099511627776), Cond.methodLink RX4 107 yX4_turned, Cond.instanceMethod yX4_turned, Cond.selects RX4 yX4_turned yX4_turned, Cond.code yX4_turned cX4_turned 13 (some .int), Cond.methodLink RX4 99 yX4_determinant, Cond.instanceMethod yX4_determinant, Cond.selects RX4 yX4_determinant yX4_determinant, Cond.code yX4_determinant cX4_determinant 10 none, Cond.methodLink RX4 60 yX4_put, Cond.instanceMethod yX4_put, Cond.selects RX4 yX4_put yX4_put, Cond.code yX4_put cX4_put 7 none, Cond.constantLong RX4 46 (4294967295), Cond.methodLink RX4 84 yX4_times]
def wsL_law0_r7 : List Cond := [Cond.instanceMethod yX4_times, Cond.selects RX4 yX4_times yX4_times, Cond.code yX4_times cX4_times 10 none, Cond.methodLink RX4 88 yX4_sum, Cond.instanceMethod yX4_sum, Cond.selects RX4 yX4_sum yX4_sum, Cond.code yX4_sum cX4_sum 6 none, Cond.methodLink RX4 48 yX4_change, Cond.instanceMethod yX4_change, Cond.selects RX4 yX4_change yX4_change, Cond.code yX4_change cX4_change 10 none, Cond.methodLink RX4 52 yX4_compare, Cond.instanceMethod yX4_compare, Cond.selects RX4 yX4_compare yX4_compare, Cond.code yX4_compare cX4_compare 4 (some .int), Cond.methodLink RX4 56 yX4_isNothing, Cond.instanceMethod yX4_isNothing, Cond.selects RX4 yX4_isNothing yX4_isNothing, Cond.code yX4_isNothing cX4_isNothing 4 (some .boolean), Cond.methodLink RL 51 yX3_line, Cond.instanceMethod yX3_line, Cond.selects RX3 yX3_line yX3_line, Cond.code yX3_line cX3_line 10 (some .boolean), Cond.methodLink RL 55 yX4_line]
def wsL_law0_r8 : List Cond := [Cond.instanceMethod yX4_line, Cond.selects RX4 yX4_line yX4_line, Cond.code yX4_line cX4_line 10 (some .boolean), Cond.fieldLink RX4 114 "GridSumsModel" "lines" "I", Cond.methodLink RX4 111 yX4_isLine, Cond.static yX4_isLine, Cond.code yX4_isLine cX4_isLine 1 (some .boolean), Cond.methodLink RL 56 yX3_cross, Cond.instanceMethod yX3_cross, Cond.selects RX3 yX3_cross yX3_cross, Cond.code yX3_cross cX3_cross 4 (some .int), Cond.methodLink RX3 78 yX3_isTold, Cond.instanceMethod yX3_isTold, Cond.selects RX3 yX3_isTold yX3_isTold, Cond.code yX3_isTold cX3_isTold 2 (some .boolean), Cond.methodLink RX3 90 yX3_meetOfParallels, Cond.instanceMethod yX3_meetOfParallels, Cond.selects RX3 yX3_meetOfParallels yX3_meetOfParallels, Cond.code yX3_meetOfParallels cX3_meetOfParallels 17 (some .int), Cond.methodLink RX3 169 Lib.MathLoose.min_long.x, Cond.static Lib.MathLoose.min_long.x, Cond.initialized "java/lang/Math", Cond.code Lib.MathLoose.min_long.x Lib.MathLoose.min_long.code 4 (some .long), Cond.methodLink RX3 172 Lib.MathLoose.max_long.x]
def wsL_law0_r9 : List Cond := [Cond.static Lib.MathLoose.max_long.x, Cond.code Lib.MathLoose.max_long.x Lib.MathLoose.max_long.code 4 (some .long), Cond.methodLink RX3 194 yX1_putWhole, Cond.instanceMethod yX1_putWhole, Cond.selects RX1 yX1_putWhole yX1_putWhole, Cond.code yX1_putWhole cX1_putWhole 3 none, Cond.methodLink RX1 19 yX2_put, Cond.methodLink RX3 94 yX3_meetOfOthers, Cond.instanceMethod yX3_meetOfOthers, Cond.selects RX3 yX3_meetOfOthers yX3_meetOfOthers, Cond.code yX3_meetOfOthers cX3_meetOfOthers 7 (some .int), Cond.methodLink RX3 175 yX2_negate, Cond.instanceMethod yX2_negate, Cond.selects RX2 yX2_negate yX2_negate, Cond.code yX2_negate cX2_negate 1 none, Cond.methodLink RX3 178 yX3_isPartOfSpan, Cond.instanceMethod yX3_isPartOfSpan, Cond.selects RX3 yX3_isPartOfSpan yX3_isPartOfSpan, Cond.code yX3_isPartOfSpan cX3_isPartOfSpan 2 (some .boolean), Cond.methodLink RX3 190 yX2_compare, Cond.instanceMethod yX2_compare, Cond.selects RX2 yX2_compare yX2_compare, Cond.code yX2_compare cX2_compare 2 (some .int), Cond.methodLink RX3 182 yX1_putOnWay]
def wsL_law0_r10 : List Cond := [Cond.instanceMethod yX1_putOnWay, Cond.selects RX1 yX1_putOnWay yX1_putOnWay, Cond.code yX1_putOnWay cX1_putOnWay 7 none, Cond.methodLink RX1 23 yX2_addScaled, Cond.instanceMethod yX2_addScaled, Cond.selects RX2 yX2_addScaled yX2_addScaled, Cond.code yX2_addScaled cX2_addScaled 8 none, Cond.methodLink RX1 27 yX2_copy, Cond.instanceMethod yX2_copy, Cond.selects RX2 yX2_copy yX2_copy, Cond.code yX2_copy cX2_copy 2 none, Cond.methodLink RX3 186 yX1_reduce, Cond.instanceMethod yX1_reduce, Cond.selects RX1 yX1_reduce yX1_reduce, Cond.code yX1_reduce cX1_reduce 2 none, Cond.methodLink RX1 31 yX0_findCommon, Cond.instanceMethod yX0_findCommon, Cond.selects RX0 yX0_findCommon yX0_findCommon, Cond.code yX0_findCommon cX0_findCommon 5 none, Cond.methodLink RX0 50 yX2_copyAmount, Cond.instanceMethod yX2_copyAmount, Cond.selects RX2 yX2_copyAmount yX2_copyAmount, Cond.code yX2_copyAmount cX2_copyAmount 2 none, Cond.methodLink RX2 20 yX2_copy]
def wsL_law0_r11 : List Cond := [Cond.methodLink RX2 24 yX2_negate, Cond.methodLink RX0 54 yX2_copy, Cond.methodLink RX0 30 yX2_sign, Cond.methodLink RX0 77 yX2_isOdd, Cond.instanceMethod yX2_isOdd, Cond.selects RX2 yX2_isOdd yX2_isOdd, Cond.code yX2_isOdd cX2_isOdd 1 (some .boolean), Cond.methodLink RX0 57 yX2_half, Cond.instanceMethod yX2_half, Cond.selects RX2 yX2_half yX2_half, Cond.code yX2_half cX2_half 1 none, Cond.methodLink RX0 81 yX0_takeLessFromGreater, Cond.instanceMethod yX0_takeLessFromGreater, Cond.selects RX0 yX0_takeLessFromGreater yX0_takeLessFromGreater, Cond.code yX0_takeLessFromGreater cX0_takeLessFromGreater 1 none, Cond.methodLink RX0 60 yX2_compare, Cond.methodLink RX0 67 yX2_subtract, Cond.instanceMethod yX2_subtract, Cond.selects RX2 yX2_subtract yX2_subtract, Cond.code yX2_subtract cX2_subtract 2 none, Cond.methodLink RX0 64 yX2_twice, Cond.instanceMethod yX2_twice, Cond.selects RX2 yX2_twice yX2_twice, Cond.code yX2_twice cX2_twice 1 none]
def wsL_law0_r12 : List Cond := [Cond.methodLink RX1 37 yX0_takeCommonOut, Cond.instanceMethod yX0_takeCommonOut, Cond.selects RX0 yX0_takeCommonOut yX0_takeCommonOut, Cond.code yX0_takeCommonOut cX0_takeCommonOut 3 none, Cond.methodLink RX0 84 yX2_isOne, Cond.instanceMethod yX2_isOne, Cond.selects RX2 yX2_isOne yX2_isOne, Cond.code yX2_isOne cX2_isOne 1 (some .boolean), Cond.methodLink RX0 34 yX0_divideAmounts, Cond.instanceMethod yX0_divideAmounts, Cond.selects RX0 yX0_divideAmounts yX0_divideAmounts, Cond.code yX0_divideAmounts cX0_divideAmounts 5 none, Cond.methodLink RX0 46 yX2_put, Cond.methodLink RX0 70 yX2_setLowestBit, Cond.instanceMethod yX2_setLowestBit, Cond.selects RX2 yX2_setLowestBit yX2_setLowestBit, Cond.code yX2_setLowestBit cX2_setLowestBit 1 none, Cond.methodLink RX0 87 yX2_negate, Cond.methodLink RL 60 yX4_cross, Cond.instanceMethod yX4_cross, Cond.selects RX4 yX4_cross yX4_cross, Cond.code yX4_cross cX4_cross 4 (some .int), Cond.fieldLink RX4 134 "GridSumsModel" "atHand" "Z", Cond.methodLink RX4 131 yX4_meet]
def wsL_law0_r13 : List Cond := [Cond.instanceMethod yX4_meet, Cond.selects RX4 yX4_meet yX4_meet, Cond.code yX4_meet cX4_meet 16 (some .int), Cond.methodLink RX4 124 yX4_overlap, Cond.instanceMethod yX4_overlap, Cond.selects RX4 yX4_overlap yX4_overlap, Cond.code yX4_overlap cX4_overlap 17 (some .int), Cond.methodLink RX4 117 yX4_less, Cond.static yX4_less, Cond.code yX4_less cX4_less 4 (some .long), Cond.methodLink RX4 127 yX4_place, Cond.instanceMethod yX4_place, Cond.selects RX4 yX4_place yX4_place, Cond.code yX4_place cX4_place 6 none, Cond.methodLink RX4 68 yX4_copy, Cond.instanceMethod yX4_copy, Cond.selects RX4 yX4_copy yX4_copy, Cond.code yX4_copy cX4_copy 4 none, Cond.methodLink RX4 121 yX4_reduce, Cond.instanceMethod yX4_reduce, Cond.selects RX4 yX4_reduce yX4_reduce, Cond.code yX4_reduce cX4_reduce 3 none, Cond.methodLink RX4 78 yX4_divisor, Cond.instanceMethod yX4_divisor]
def wsL_law0_r14 : List Cond := [Cond.selects RX4 yX4_divisor yX4_divisor, Cond.code yX4_divisor cX4_divisor 5 none, Cond.methodLink RX4 72 yX4_isEven, Cond.instanceMethod yX4_isEven, Cond.selects RX4 yX4_isEven yX4_isEven, Cond.code yX4_isEven cX4_isEven 2 (some .boolean), Cond.methodLink RX4 75 yX4_halve, Cond.instanceMethod yX4_halve, Cond.selects RX4 yX4_halve yX4_halve, Cond.code yX4_halve cX4_halve 5 none, Cond.methodLink RX4 64 yX4_twice, Cond.instanceMethod yX4_twice, Cond.selects RX4 yX4_twice yX4_twice, Cond.code yX4_twice cX4_twice 2 none, Cond.methodLink RX4 81 yX4_divide, Cond.instanceMethod yX4_divide, Cond.selects RX4 yX4_divide yX4_divide, Cond.code yX4_divide cX4_divide 4 none, Cond.methodLink RL 61 yX3_at, Cond.instanceMethod yX3_at, Cond.selects RX3 yX3_at yX3_at, Cond.code yX3_at cX3_at 3 (some .long), Cond.constantLong RX3 100 (-4611686018427387904), Cond.methodLink RX3 97 yX3_isAnswerable]
def wsL_law0_r15 : List Cond := [Cond.instanceMethod yX3_isAnswerable, Cond.selects RX3 yX3_isAnswerable yX3_isAnswerable, Cond.code yX3_isAnswerable cX3_isAnswerable 2 (some .boolean), Cond.methodLink RX3 108 yX0_rounded, Cond.instanceMethod yX0_rounded, Cond.selects RX0 yX0_rounded yX0_rounded, Cond.code yX0_rounded cX0_rounded 7 (some .long), Cond.methodLink RX0 38 yX0_isOneMore, Cond.instanceMethod yX0_isOneMore, Cond.selects RX0 yX0_isOneMore yX0_isOneMore, Cond.code yX0_isOneMore cX0_isOneMore 3 (some .boolean), Cond.methodLink RX0 73 yX0_isOneMoreNearer, Cond.instanceMethod yX0_isOneMoreNearer, Cond.selects RX0 yX0_isOneMoreNearer yX0_isOneMoreNearer, Cond.code yX0_isOneMoreNearer cX0_isOneMoreNearer 3 (some .boolean), Cond.methodLink RL 64 yX4_at, Cond.instanceMethod yX4_at, Cond.selects RX4 yX4_at yX4_at, Cond.code yX4_at cX4_at 3 (some .long), Cond.constantLong RX4 138 (-4611686018427387904), Cond.methodLink RX4 140 yX4_bits, Cond.instanceMethod yX4_bits, Cond.selects RX4 yX4_bits yX4_bits, Cond.code yX4_bits cX4_bits 5 (some .long)]
def wsL_law0_r16 : List Cond := [Cond.methodLink RL 65 yL_exact, Cond.static yL_exact, Cond.initialized RL, Cond.codeWith yL_exact cL_exact 6 (some .int) [(0, 11, 14, 13)], Cond.classLink RL 13 "java/lang/IndexOutOfBoundsException", Cond.methodLink RL 7 yX3_exact, Cond.instanceMethod yX3_exact, Cond.selects RX3 yX3_exact yX3_exact, Cond.code yX3_exact cX3_exact 5 (some .long), Cond.methodLink RX3 112 yX3_limbOf, Cond.static yX3_limbOf, Cond.code yX3_limbOf cX3_limbOf 2 (some .long), Cond.classLink RX3 144 "java/lang/IndexOutOfBoundsException", Cond.initialized "java/lang/IndexOutOfBoundsException", Cond.methodLink RX3 202 yX2_limbs, Cond.instanceMethod yX2_limbs, Cond.selects RX2 yX2_limbs yX2_limbs, Cond.code yX2_limbs cX2_limbs 3 (some .int), Cond.methodLink RX2 50 yX2_highOfAmount, Cond.instanceMethod yX2_highOfAmount, Cond.selects RX2 yX2_highOfAmount yX2_highOfAmount, Cond.code yX2_highOfAmount cX2_highOfAmount 1 (some .long), Cond.methodLink RX2 54 yX2_lowOfAmount, Cond.instanceMethod yX2_lowOfAmount]
def wsL_law0_r17 : List Cond := [Cond.selects RX2 yX2_lowOfAmount yX2_lowOfAmount, Cond.code yX2_lowOfAmount cX2_lowOfAmount 1 (some .long), Cond.methodLink RX3 207 yX2_limbOfAmount, Cond.instanceMethod yX2_limbOfAmount, Cond.selects RX2 yX2_limbOfAmount yX2_limbOfAmount, Cond.code yX2_limbOfAmount cX2_limbOfAmount 4 (some .long), Cond.methodLink RL 70 yX4_exact, Cond.instanceMethod yX4_exact, Cond.selects RX4 yX4_exact yX4_exact, Cond.code yX4_exact cX4_exact 4 (some .long), Cond.methodLink RX4 144 yX4_limbOf, Cond.instanceMethod yX4_limbOf, Cond.selects RX4 yX4_limbOf yX4_limbOf, Cond.code yX4_limbOf cX4_limbOf 3 (some .long), Cond.methodLink RX4 91 yX4_limbs, Cond.instanceMethod yX4_limbs, Cond.selects RX4 yX4_limbs yX4_limbs, Cond.code yX4_limbs cX4_limbs 3 (some .int), Cond.methodLink RL 71 yX4_thrown, Cond.instanceMethod yX4_thrown, Cond.selects RX4 yX4_thrown yX4_thrown, Cond.code yX4_thrown cX4_thrown 1 (some .int), Cond.methodLink RL 75 yX3_corner, Cond.instanceMethod yX3_corner]
def wsL_law0_r18 : List Cond := [Cond.selects RX3 yX3_corner yX3_corner, Cond.code yX3_corner cX3_corner 5 (some .boolean), Cond.methodLink RL 79 yX4_corner, Cond.instanceMethod yX4_corner, Cond.selects RX4 yX4_corner yX4_corner, Cond.code yX4_corner cX4_corner 5 (some .boolean), Cond.fieldLink RX4 148 "GridSumsModel" "corners" "I", Cond.methodLink RL 80 yL_area2, Cond.static yL_area2, Cond.codeWith yL_area2 cL_area2 4 (some .int) [(0, 8, 11, 13)], Cond.methodLink RL 15 yX3_area2, Cond.instanceMethod yX3_area2, Cond.selects RX3 yX3_area2 yX3_area2, Cond.code yX3_area2 cX3_area2 4 (some .long), Cond.methodLink RX3 116 yX2_put, Cond.methodLink RX3 120 yX3_cornerBehind, Cond.instanceMethod yX3_cornerBehind, Cond.selects RX3 yX3_cornerBehind yX3_cornerBehind, Cond.code yX3_cornerBehind cX3_cornerBehind 2 (some .int), Cond.methodLink RX3 124 yX2_addSpan, Cond.methodLink RL 83 yX4_area2, Cond.instanceMethod yX4_area2, Cond.selects RX4 yX4_area2 yX4_area2, Cond.code yX4_area2 cX4_area2 4 (some .long)]
def wsL_law0_r19 : List Cond := [Cond.methodLink RL 84 yX3_inside, Cond.instanceMethod yX3_inside, Cond.selects RX3 yX3_inside yX3_inside, Cond.code yX3_inside cX3_inside 9 (some .int), Cond.methodLink RX3 127 yX3_isBetween, Cond.static yX3_isBetween, Cond.code yX3_isBetween cX3_isBetween 6 (some .boolean), Cond.methodLink RX3 131 yX3_meetsRay, Cond.static yX3_meetsRay, Cond.code yX3_meetsRay cX3_meetsRay 7 (some .boolean), Cond.methodLink RL 88 yX4_inside, Cond.instanceMethod yX4_inside, Cond.selects RX4 yX4_inside yX4_inside, Cond.code yX4_inside cX4_inside 21 (some .int), Cond.methodLink RL 89 yL_over, Cond.static yL_over, Cond.codeWith yL_over cL_over 8 (some .int) [(0, 12, 15, 23)], Cond.classLink RL 23 "java/lang/ArithmeticException", Cond.methodLink RL 19 yX3_over, Cond.instanceMethod yX3_over, Cond.selects RX3 yX3_over yX3_over, Cond.code yX3_over cX3_over 6 (some .long), Cond.methodLink RX3 135 yX3_ratioByRule, Cond.instanceMethod yX3_ratioByRule]
def wsL_law0_r20 : List Cond := [Cond.selects RX3 yX3_ratioByRule yX3_ratioByRule, Cond.code yX3_ratioByRule cX3_ratioByRule 8 (some .long), Cond.classLink RX3 197 "java/lang/ArithmeticException", Cond.initialized "java/lang/ArithmeticException", Cond.methodLink RX3 139 yX2_addProduct, Cond.methodLink RL 92 yX4_over, Cond.instanceMethod yX4_over, Cond.selects RX4 yX4_over yX4_over, Cond.code yX4_over cX4_over 7 (some .long), Cond.methodLink RX4 154 yX4_ratioOf, Cond.instanceMethod yX4_ratioOf, Cond.selects RX4 yX4_ratioOf yX4_ratioOf, Cond.code yX4_ratioOf cX4_ratioOf 9 (some .long), Cond.methodLink RX4 151 yX4_quotient, Cond.instanceMethod yX4_quotient, Cond.selects RX4 yX4_quotient yX4_quotient, Cond.code yX4_quotient cX4_quotient 9 (some .long), Cond.methodLink RL 93 yL_product, Cond.static yL_product, Cond.codeWith yL_product cL_product 8 (some .int) [(0, 12, 15, 13)], Cond.methodLink RL 25 yX3_product, Cond.instanceMethod yX3_product, Cond.selects RX3 yX3_product yX3_product, Cond.code yX3_product cX3_product 6 (some .long)]
def wsL_law0_r21 : List Cond := [Cond.methodLink RL 95 yX4_product, Cond.instanceMethod yX4_product, Cond.selects RX4 yX4_product yX4_product, Cond.code yX4_product cX4_product 6 (some .long), Cond.methodLink RL 96 yL_ratio, Cond.static yL_ratio, Cond.codeWith yL_ratio cL_ratio 10 (some .int) [(0, 14, 17, 23)], Cond.methodLink RL 28 yX3_ratio, Cond.instanceMethod yX3_ratio, Cond.selects RX3 yX3_ratio yX3_ratio, Cond.code yX3_ratio cX3_ratio 8 (some .long), Cond.methodLink RL 99 yX4_ratio, Cond.instanceMethod yX4_ratio, Cond.selects RX4 yX4_ratio yX4_ratio, Cond.code yX4_ratio cX4_ratio 9 (some .long), Cond.methodLink RL 100 yL_share, Cond.static yL_share, Cond.codeWith yL_share cL_share 7 (some .int) [(0, 12, 15, 13)], Cond.methodLink RL 32 yX3_share, Cond.instanceMethod yX3_share, Cond.selects RX3 yX3_share yX3_share, Cond.code yX3_share cX3_share 9 (some .long), Cond.constant RX3 143 (1000000), Cond.methodLink RX3 151 yJ9_floorDiv_f86c9]
def wsL_law0_r22 : List Cond := [Cond.static yJ9_floorDiv_f86c9, Cond.initialized RJ9, Cond.code yJ9_floorDiv_f86c9 cJ9_floorDiv_f86c9 6 (some .long), Cond.methodLink RX3 157 yJ9_floorMod_f86c9, Cond.static yJ9_floorMod_f86c9, Cond.code yJ9_floorMod_f86c9 cJ9_floorMod_f86c9 6 (some .long), Cond.methodLink RL 103 yX4_share, Cond.instanceMethod yX4_share, Cond.selects RX4 yX4_share yX4_share, Cond.code yX4_share cX4_share 9 (some .long), Cond.constant RX4 158 (1000000), Cond.methodLink RL 104 yL_digit, Cond.static yL_digit, Cond.codeWith yL_digit cL_digit 7 (some .int) [(0, 13, 16, 13)], Cond.methodLink RL 36 yX3_digit, Cond.instanceMethod yX3_digit, Cond.selects RX3 yX3_digit yX3_digit, Cond.code yX3_digit cX3_digit 8 (some .int), Cond.methodLink RL 106 yX4_digit, Cond.instanceMethod yX4_digit, Cond.selects RX4 yX4_digit yX4_digit, Cond.code yX4_digit cX4_digit 18 (some .int), Cond.methodLink RL 107 yX3_clear, Cond.instanceMethod yX3_clear]
def wsL_law0_r23 : List Cond := [Cond.selects RX3 yX3_clear yX3_clear, Cond.code yX3_clear cX3_clear 2 none, Cond.methodLink RL 110 yX4_clear, Cond.instanceMethod yX4_clear, Cond.selects RX4 yX4_clear yX4_clear, Cond.code yX4_clear cX4_clear 2 none, Cond.methodLink RL 111 yX3_count, Cond.instanceMethod yX3_count, Cond.selects RX3 yX3_count yX3_count, Cond.code yX3_count cX3_count 2 (some .int), Cond.methodLink RX3 162 yX3_linesTold, Cond.instanceMethod yX3_linesTold, Cond.selects RX3 yX3_linesTold yX3_linesTold, Cond.code yX3_linesTold cX3_linesTold 3 (some .int), Cond.methodLink RL 115 yX4_count, Cond.instanceMethod yX4_count, Cond.selects RX4 yX4_count yX4_count, Cond.code yX4_count cX4_count 2 (some .int)]
def wsL_law0 : List Cond := (wsL_law0_r1 ++ (wsL_law0_r2 ++ (wsL_law0_r3 ++ (wsL_law0_r4 ++ (wsL_law0_r5 ++ (wsL_law0_r6 ++ (wsL_law0_r7 ++ (wsL_law0_r8 ++ (wsL_law0_r9 ++ (wsL_law0_r10 ++ (wsL_law0_r11 ++ (wsL_law0_r12 ++ (wsL_law0_r13 ++ (wsL_law0_r14 ++ (wsL_law0_r15 ++ (wsL_law0_r16 ++ (wsL_law0_r17 ++ (wsL_law0_r18 ++ (wsL_law0_r19 ++ (wsL_law0_r20 ++ (wsL_law0_r21 ++ (wsL_law0_r22 ++ wsL_law0_r23)))))))))))))))))))))) ++ wsX30 ++ wsX40 ++ wsX10 ++ wsX00 ++ wsX20 ++ ([] : List Cond)
abbrev vwCl : List vw_C := [(RX0, TX0, 5), (RX1, TX1, 2), (RX2, TX2, 2), (RX3, TX3, 15), (RX4, TX4, 14)]
end
section
abbrev TB : List Cond := wsL_law0
set_option maxRecDepth 20000 in
theorem tb_good : ∀ w ∈ TB, goodWord w = true := by decide +kernel
theorem tb_G {c : Cond} (h : c ∈ TB) : GoodIn TB (c :: TB) := fun w hw => (List.mem_cons.mp hw).elim (fun e => by rw [e]; exact ⟨h, good_of_word (tb_good c h)⟩) (fun hw => ⟨hw, good_of_word (tb_good w hw)⟩)
theorem tb_in1 : ∀ w ∈ wsL_law0_r1, w ∈ TB := fun _ h => List.mem_append_left _ (List.mem_append_left _ (List.mem_append_left _ (List.mem_append_left _ (List.mem_append_left _ (List.mem_append_left _ (List.mem_append_left _ h))))))
theorem tb_in2 : ∀ w ∈ wsL_law0_r2, w ∈ TB := fun _ h => List.mem_append_left _ (List.mem_append_left _ (List.mem_append_left _ (List.mem_append_left _ (List.mem_append_left _ (List.mem_append_left _ (List.mem_append_right _ (List.mem_append_left _ h)))))))
theorem tb_in3 : ∀ w ∈ wsL_law0_r3, w ∈ TB := fun _ h => List.mem_append_left _ (List.mem_append_left _ (List.mem_append_left _ (List.mem_append_left _ (List.mem_append_left _ (List.mem_append_left _ (List.mem_append_right _ (List.mem_append_right _ (List.mem_append_left _ h))))))))
theorem tb_in4 : ∀ w ∈ wsL_law0_r4, w ∈ TB := fun _ h => List.mem_append_left _ (List.mem_append_left _ (List.mem_append_left _ (List.mem_append_left _ (List.mem_append_left _ (List.mem_append_left _ (List.mem_append_right _ (List.mem_append_right _ (List.mem_append_right _ (List.mem_append_left _ h)))))))))
theorem tb_in5 : ∀ w ∈ wsL_law0_r5, w ∈ TB := fun _ h => List.mem_append_left _ (List.mem_append_left _ (List.mem_append_left _ (List.mem_append_left _ (List.mem_append_left _ (List.mem_append_left _ (List.mem_append_right _ (List.mem_append_right _ (List.mem_append_right _ (List.mem_append_right _ (List.mem_append_left _ h))))))))))
theorem tb_in6 : ∀ w ∈ wsL_law0_r6, w ∈ TB := fun _ h => List.mem_append_left _ (List.mem_append_left _ (List.mem_append_left _ (List.mem_append_left _ (List.mem_append_left _ (List.mem_append_left _ (List.mem_append_right _ (List.mem_append_right _ (List.mem_append_right _ (List.mem_append_right _ (List.mem_append_right _ (List.mem_append_left _ h)))))))))))
theorem tb_in7 : ∀ w ∈ wsL_law0_r7, w ∈ TB := fun _ h => List.mem_append_left _ (List.mem_append_left _ (List.mem_append_left _ (List.mem_append_left _ (List.mem_append_left _ (List.mem_append_left _ (List.mem_append_right _ (List.mem_append_right _ (List.mem_append_right _ (List.mem_append_right _ (List.mem_append_right _ (List.mem_append_right _ (List.mem_append_left _ h))))))))))))
theorem tb_in8 : ∀ w ∈ wsL_law0_r8, w ∈ TB := fun _ h => List.mem_append_left _ (List.mem_append_left _ (List.mem_append_left _ (List.mem_append_left _ (List.mem_append_left _ (List.mem_append_left _ (List.mem_append_right _ (List.mem_append_right _ (List.mem_append_right _ (List.mem_append_right _ (List.mem_append_right _ (List.mem_append_right _ (List.mem_append_right _ (List.mem_append_left _ h)))))))))))))
theorem tb_in9 : ∀ w ∈ wsL_law0_r9, w ∈ TB := fun _ h => List.mem_append_left _ (List.mem_append_left _ (List.mem_append_left _ (List.mem_append_left _ (List.mem_append_left _ (List.mem_append_left _ (List.mem_append_right _ (List.mem_append_right _ (List.mem_append_right _ (List.mem_append_right _ (List.mem_append_right _ (List.mem_append_right _ (List.mem_append_right _ (List.mem_append_right _ (List.mem_append_left _ h))))))))))))))
theorem tb_in10 : ∀ w ∈ wsL_law0_r10, w ∈ TB := fun _ h => List.mem_append_left _ (List.mem_append_left _ (List.mem_append_left _ (List.mem_append_left _ (List.mem_append_left _ (List.mem_append_left _ (List.mem_append_right _ (List.mem_append_right _ (List.mem_append_right _ (List.mem_append_right _ (List.mem_append_right _ (List.mem_append_right _ (List.mem_append_right _ (List.mem_append_right _ (List.mem_append_right _ (List.mem_append_left _ h)))))))))))))))
theorem tb_in11 : ∀ w ∈ wsL_law0_r11, w ∈ TB := fun _ h => List.mem_append_left _ (List.mem_append_left _ (List.mem_append_left _ (List.mem_append_left _ (List.mem_append_left _ (List.mem_append_left _ (List.mem_append_right _ (List.mem_append_right _ (List.mem_append_right _ (List.mem_append_right _ (List.mem_append_right _ (List.mem_append_right _ (List.mem_append_right _ (List.mem_append_right _ (List.mem_append_right _ (List.mem_append_right _ (List.mem_append_left _ h))))))))))))))))
theorem tb_in12 : ∀ w ∈ wsL_law0_r12, w ∈ TB := fun _ h => List.mem_append_left _ (List.mem_append_left _ (List.mem_append_left _ (List.mem_append_left _ (List.mem_append_left _ (List.mem_append_left _ (List.mem_append_right _ (List.mem_append_right _ (List.mem_append_right _ (List.mem_append_right _ (List.mem_append_right _ (List.mem_append_right _ (List.mem_append_right _ (List.mem_append_right _ (List.mem_append_right _ (List.mem_append_right _ (List.mem_append_right _ (List.mem_append_left _ h)))))))))))))))))
theorem tb_in13 : ∀ w ∈ wsL_law0_r13, w ∈ TB := fun _ h => List.mem_append_left _ (List.mem_append_left _ (List.mem_append_left _ (List.mem_append_left _ (List.mem_append_left _ (List.mem_append_left _ (List.mem_append_right _ (List.mem_append_right _ (List.mem_append_right _ (List.mem_append_right _ (List.mem_append_right _ (List.mem_append_right _ (List.mem_append_right _ (List.mem_append_right _ (List.mem_append_right _ (List.mem_append_right _ (List.mem_append_right _ (List.mem_append_right _ (List.mem_append_left _ h))))))))))))))))))
theorem tb_in14 : ∀ w ∈ wsL_law0_r14, w ∈ TB := fun _ h => List.mem_append_left _ (List.mem_append_left _ (List.mem_append_left _ (List.mem_append_left _ (List.mem_append_left _ (List.mem_append_left _ (List.mem_append_right _ (List.mem_append_right _ (List.mem_append_right _ (List.mem_append_right _ (List.mem_append_right _ (List.mem_append_right _ (List.mem_append_right _ (List.mem_append_right _ (List.mem_append_right _ (List.mem_append_right _ (List.mem_append_right _ (List.mem_append_right _ (List.mem_append_right _ (List.mem_append_left _ h)))))))))))))))))))
theorem tb_in15 : ∀ w ∈ wsL_law0_r15, w ∈ TB := fun _ h => List.mem_append_left _ (List.mem_append_left _ (List.mem_append_left _ (List.mem_append_left _ (List.mem_append_left _ (List.mem_append_left _ (List.mem_append_right _ (List.mem_append_right _ (List.mem_append_right _ (List.mem_append_right _ (List.mem_append_right _ (List.mem_append_right _ (List.mem_append_right _ (List.mem_append_right _ (List.mem_append_right _ (List.mem_append_right _ (List.mem_append_right _ (List.mem_append_right _ (List.mem_append_right _ (List.mem_append_right _ (List.mem_append_left _ h))))))))))))))))))))
theorem tb_in16 : ∀ w ∈ wsL_law0_r16, w ∈ TB := fun _ h => List.mem_append_left _ (List.mem_append_left _ (List.mem_append_left _ (List.mem_append_left _ (List.mem_append_left _ (List.mem_append_left _ (List.mem_append_right _ (List.mem_append_right _ (List.mem_append_right _ (List.mem_append_right _ (List.mem_append_right _ (List.mem_append_right _ (List.mem_append_right _ (List.mem_append_right _ (List.mem_append_right _ (List.mem_append_right _ (List.mem_append_right _ (List.mem_append_right _ (List.mem_append_right _ (List.mem_append_right _ (List.mem_append_right _ (List.mem_append_left _ h)))))))))))))))))))))
theorem tb_in17 : ∀ w ∈ wsL_law0_r17, w ∈ TB := fun _ h => List.mem_append_left _ (List.mem_append_left _ (List.mem_append_left _ (List.mem_append_left _ (List.mem_append_left _ (List.mem_append_left _ (List.mem_append_right _ (List.mem_append_right _ (List.mem_append_right _ (List.mem_append_right _ (List.mem_append_right _ (List.mem_append_right _ (List.mem_append_right _ (List.mem_append_right _ (List.mem_append_right _ (List.mem_append_right _ (List.mem_append_right _ (List.mem_append_right _ (List.mem_append_right _ (List.mem_append_right _ (List.mem_append_right _ (List.mem_append_right _ (List.mem_append_left _ h))))))))))))))))))))))
theorem tb_in18 : ∀ w ∈ wsL_law0_r18, w ∈ TB := fun _ h => List.mem_append_left _ (List.mem_append_left _ (List.mem_append_left _ (List.mem_append_left _ (List.mem_append_left _ (List.mem_append_left _ (List.mem_append_right _ (List.mem_append_right _ (List.mem_append_right _ (List.mem_append_right _ (List.mem_append_right _ (List.mem_append_right _ (List.mem_append_right _ (List.mem_append_right _ (List.mem_append_right _ (List.mem_append_right _ (List.mem_append_right _ (List.mem_append_right _ (List.mem_append_right _ (List.mem_append_right _ (List.mem_append_right _ (List.mem_append_right _ (List.mem_append_right _ (List.mem_append_left _ h)))))))))))))))))))))))
theorem tb_in19 : ∀ w ∈ wsL_law0_r19, w ∈ TB := fun _ h => List.mem_append_left _ (List.mem_append_left _ (List.mem_append_left _ (List.mem_append_left _ (List.mem_append_left _ (List.mem_append_left _ (List.mem_append_right _ (List.mem_append_right _ (List.mem_append_right _ (List.mem_append_right _ (List.mem_append_right _ (List.mem_append_right _ (List.mem_append_right _ (List.mem_append_right _ (List.mem_append_right _ (List.mem_append_right _ (List.mem_append_right _ (List.mem_append_right _ (List.mem_append_right _ (List.mem_append_right _ (List.mem_append_right _ (List.mem_append_right _ (List.mem_append_right _ (List.mem_append_right _ (List.mem_append_left _ h))))))))))))))))))))))))
theorem tb_in20 : ∀ w ∈ wsL_law0_r20, w ∈ TB := fun _ h => List.mem_append_left _ (List.mem_append_left _ (List.mem_append_left _ (List.mem_append_left _ (List.mem_append_left _ (List.mem_append_left _ (List.mem_append_right _ (List.mem_append_right _ (List.mem_append_right _ (List.mem_append_right _ (List.mem_append_right _ (List.mem_append_right _ (List.mem_append_right _ (List.mem_append_right _ (List.mem_append_right _ (List.mem_append_right _ (List.mem_append_right _ (List.mem_append_right _ (List.mem_append_right _ (List.mem_append_right _ (List.mem_append_right _ (List.mem_append_right _ (List.mem_append_right _ (List.mem_append_right _ (List.mem_append_right _ (List.mem_append_left _ h)))))))))))))))))))))))))
theorem tb_in21 : ∀ w ∈ wsL_law0_r21, w ∈ TB := fun _ h => List.mem_append_left _ (List.mem_append_left _ (List.mem_append_left _ (List.mem_append_left _ (List.mem_append_left _ (List.mem_append_left _ (List.mem_append_right _ (List.mem_append_right _ (List.mem_append_right _ (List.mem_append_right _ (List.mem_append_right _ (List.mem_append_right _ (List.mem_append_right _ (List.mem_append_right _ (List.mem_append_right _ (List.mem_append_right _ (List.mem_append_right _ (List.mem_append_right _ (List.mem_append_right _ (List.mem_append_right _ (List.mem_append_right _ (List.mem_append_right _ (List.mem_append_right _ (List.mem_append_right _ (List.mem_append_right _ (List.mem_append_right _ (List.mem_append_left _ h))))))))))))))))))))))))))
theorem tb_in22 : ∀ w ∈ wsL_law0_r22, w ∈ TB := fun _ h => List.mem_append_left _ (List.mem_append_left _ (List.mem_append_left _ (List.mem_append_left _ (List.mem_append_left _ (List.mem_append_left _ (List.mem_append_right _ (List.mem_append_right _ (List.mem_append_right _ (List.mem_append_right _ (List.mem_append_right _ (List.mem_append_right _ (List.mem_append_right _ (List.mem_append_right _ (List.mem_append_right _ (List.mem_append_right _ (List.mem_append_right _ (List.mem_append_right _ (List.mem_append_right _ (List.mem_append_right _ (List.mem_append_right _ (List.mem_append_right _ (List.mem_append_right _ (List.mem_append_right _ (List.mem_append_right _ (List.mem_append_right _ (List.mem_append_right _ (List.mem_append_left _ h)))))))))))))))))))))))))))
theorem tb_in23 : ∀ w ∈ wsL_law0_r23, w ∈ TB := fun _ h => List.mem_append_left _ (List.mem_append_left _ (List.mem_append_left _ (List.mem_append_left _ (List.mem_append_left _ (List.mem_append_left _ (List.mem_append_right _ (List.mem_append_right _ (List.mem_append_right _ (List.mem_append_right _ (List.mem_append_right _ (List.mem_append_right _ (List.mem_append_right _ (List.mem_append_right _ (List.mem_append_right _ (List.mem_append_right _ (List.mem_append_right _ (List.mem_append_right _ (List.mem_append_right _ (List.mem_append_right _ (List.mem_append_right _ (List.mem_append_right _ (List.mem_append_right _ (List.mem_append_right _ (List.mem_append_right _ (List.mem_append_right _ (List.mem_append_right _ (List.mem_append_right _ (h))))))))))))))))))))))))))))
theorem tb_X3 : ∀ w ∈ wsX30, w ∈ TB := fun _ h => List.mem_append_left _ (List.mem_append_left _ (List.mem_append_left _ (List.mem_append_left _ (List.mem_append_left _ (List.mem_append_right _ h)))))
theorem tb_X4 : ∀ w ∈ wsX40, w ∈ TB := fun _ h => List.mem_append_left _ (List.mem_append_left _ (List.mem_append_left _ (List.mem_append_left _ (List.mem_append_right _ h))))
theorem tb_X1 : ∀ w ∈ wsX10, w ∈ TB := fun _ h => List.mem_append_left _ (List.mem_append_left _ (List.mem_append_left _ (List.mem_append_right _ h)))
theorem tb_X0 : ∀ w ∈ wsX00, w ∈ TB := fun _ h => List.mem_append_left _ (List.mem_append_left _ (List.mem_append_right _ h))
theorem tb_X2 : ∀ w ∈ wsX20, w ∈ TB := fun _ h => List.mem_append_left _ (List.mem_append_right _ h)
theorem tb_1_0 : Cond.classLink RL 8 RX3 ∈ TB := tb_in1 _ (List.mem_of_getElem? (i := 0) rfl)
theorem tb_1_1 : Cond.instantiable RX3 15 ∈ TB := tb_in1 _ (List.mem_of_getElem? (i := 1) rfl)
theorem tb_1_2 : Cond.initialized RX3 ∈ TB := tb_in1 _ (List.mem_of_getElem? (i := 2) rfl)
theorem tb_1_3 : Cond.classLink RL 41 RX4 ∈ TB := tb_in1 _ (List.mem_of_getElem? (i := 3) rfl)
theorem tb_1_4 : Cond.instantiable RX4 14 ∈ TB := tb_in1 _ (List.mem_of_getElem? (i := 4) rfl)
theorem tb_1_5 : Cond.initialized RX4 ∈ TB := tb_in1 _ (List.mem_of_getElem? (i := 5) rfl)
theorem tb_1_6 : Cond.arrayClass .long ∈ TB := tb_in1 _ (List.mem_of_getElem? (i := 6) rfl)
theorem tb_1_7 : Cond.constantLong RL 44 (4294967295) ∈ TB := tb_in1 _ (List.mem_of_getElem? (i := 7) rfl)
theorem tb_1_8 : Cond.methodLink RL 40 yX3_init ∈ TB := tb_in1 _ (List.mem_of_getElem? (i := 8) rfl)
theorem tb_1_9 : Cond.instanceMethod yX3_init ∈ TB := tb_in1 _ (List.mem_of_getElem? (i := 9) rfl)
theorem tb_1_10 : Cond.code yX3_init cX3_init 1 none ∈ TB := tb_in1 _ (List.mem_of_getElem? (i := 10) rfl)
theorem tb_1_11 : Cond.methodLink RX3 1 objectInit ∈ TB := tb_in1 _ (List.mem_of_getElem? (i := 11) rfl)
theorem tb_1_12 : Cond.instanceMethod objectInit ∈ TB := tb_in1 _ (List.mem_of_getElem? (i := 12) rfl)
theorem tb_1_13 : Cond.code objectInit ⟨#[0xb1]⟩ 1 none ∈ TB := tb_in1 _ (List.mem_of_getElem? (i := 13) rfl)
theorem tb_1_14 : Cond.arrayClass .boolean ∈ TB := tb_in1 _ (List.mem_of_getElem? (i := 14) rfl)
theorem tb_1_15 : Cond.fieldLink RX3 9 "GridSums" "told" "[Z" ∈ TB := tb_in1 _ (List.mem_of_getElem? (i := 15) rfl)
theorem tb_1_16 : Cond.fieldLink RX3 13 "GridSums" "startX" "[J" ∈ TB := tb_in1 _ (List.mem_of_getElem? (i := 16) rfl)
theorem tb_1_17 : Cond.fieldLink RX3 17 "GridSums" "startY" "[J" ∈ TB := tb_in1 _ (List.mem_of_getElem? (i := 17) rfl)
theorem tb_1_18 : Cond.fieldLink RX3 20 "GridSums" "wayX" "[J" ∈ TB := tb_in1 _ (List.mem_of_getElem? (i := 18) rfl)
theorem tb_1_19 : Cond.fieldLink RX3 23 "GridSums" "wayY" "[J" ∈ TB := tb_in1 _ (List.mem_of_getElem? (i := 19) rfl)
theorem tb_1_20 : Cond.fieldLink RX3 26 "GridSums" "cornerX" "[J" ∈ TB := tb_in1 _ (List.mem_of_getElem? (i := 20) rfl)
theorem tb_1_21 : Cond.fieldLink RX3 29 "GridSums" "cornerY" "[J" ∈ TB := tb_in1 _ (List.mem_of_getElem? (i := 21) rfl)
theorem tb_1_22 : Cond.classLink RX3 32 RX1 ∈ TB := tb_in1 _ (List.mem_of_getElem? (i := 22) rfl)
theorem tb_1_23 : Cond.instantiable RX1 2 ∈ TB := tb_in1 _ (List.mem_of_getElem? (i := 23) rfl)
theorem tb_2_0 : Cond.initialized RX1 ∈ TB := tb_in2 _ (List.mem_of_getElem? (i := 0) rfl)
theorem tb_2_1 : Cond.fieldLink RX3 35 "GridSums" "handX" "LGridSums$Fraction;" ∈ TB := tb_in2 _ (List.mem_of_getElem? (i := 1) rfl)
theorem tb_2_2 : Cond.fieldLink RX3 39 "GridSums" "handY" "LGridSums$Fraction;" ∈ TB := tb_in2 _ (List.mem_of_getElem? (i := 2) rfl)
theorem tb_2_3 : Cond.classLink RX3 42 RX0 ∈ TB := tb_in2 _ (List.mem_of_getElem? (i := 3) rfl)
theorem tb_2_4 : Cond.instantiable RX0 5 ∈ TB := tb_in2 _ (List.mem_of_getElem? (i := 4) rfl)
theorem tb_2_5 : Cond.initialized RX0 ∈ TB := tb_in2 _ (List.mem_of_getElem? (i := 5) rfl)
theorem tb_2_6 : Cond.fieldLink RX3 45 "GridSums" "division" "LGridSums$Division;" ∈ TB := tb_in2 _ (List.mem_of_getElem? (i := 6) rfl)
theorem tb_2_7 : Cond.classLink RX3 49 RX2 ∈ TB := tb_in2 _ (List.mem_of_getElem? (i := 7) rfl)
theorem tb_2_8 : Cond.instantiable RX2 2 ∈ TB := tb_in2 _ (List.mem_of_getElem? (i := 8) rfl)
theorem tb_2_9 : Cond.initialized RX2 ∈ TB := tb_in2 _ (List.mem_of_getElem? (i := 9) rfl)
theorem tb_2_10 : Cond.fieldLink RX3 52 "GridSums" "span" "LGridSums$Wide;" ∈ TB := tb_in2 _ (List.mem_of_getElem? (i := 10) rfl)
theorem tb_2_11 : Cond.fieldLink RX3 56 "GridSums" "partOfFirst" "LGridSums$Wide;" ∈ TB := tb_in2 _ (List.mem_of_getElem? (i := 11) rfl)
theorem tb_2_12 : Cond.fieldLink RX3 59 "GridSums" "partOfSecond" "LGridSums$Wide;" ∈ TB := tb_in2 _ (List.mem_of_getElem? (i := 12) rfl)
theorem tb_2_13 : Cond.fieldLink RX3 62 "GridSums" "corners" "I" ∈ TB := tb_in2 _ (List.mem_of_getElem? (i := 13) rfl)
theorem tb_2_14 : Cond.fieldLink RX3 66 "GridSums" "placeAtHand" "Z" ∈ TB := tb_in2 _ (List.mem_of_getElem? (i := 14) rfl)
theorem tb_2_15 : Cond.instanceMethod yX1_init ∈ TB := tb_in2 _ (List.mem_of_getElem? (i := 15) rfl)
theorem tb_2_16 : Cond.code yX1_init cX1_init 1 none ∈ TB := tb_in2 _ (List.mem_of_getElem? (i := 16) rfl)
theorem tb_2_17 : Cond.methodLink RX1 1 objectInit ∈ TB := tb_in2 _ (List.mem_of_getElem? (i := 17) rfl)
theorem tb_2_18 : Cond.classLink RX1 7 RX2 ∈ TB := tb_in2 _ (List.mem_of_getElem? (i := 18) rfl)
theorem tb_2_19 : Cond.fieldLink RX1 10 "GridSums$Fraction" "upper" "LGridSums$Wide;" ∈ TB := tb_in2 _ (List.mem_of_getElem? (i := 19) rfl)
theorem tb_2_20 : Cond.fieldLink RX1 16 "GridSums$Fraction" "lower" "LGridSums$Wide;" ∈ TB := tb_in2 _ (List.mem_of_getElem? (i := 20) rfl)
theorem tb_2_21 : Cond.instanceMethod yX2_init ∈ TB := tb_in2 _ (List.mem_of_getElem? (i := 21) rfl)
theorem tb_2_22 : Cond.code yX2_init cX2_init 1 none ∈ TB := tb_in2 _ (List.mem_of_getElem? (i := 22) rfl)
theorem tb_2_23 : Cond.methodLink RX2 3 objectInit ∈ TB := tb_in2 _ (List.mem_of_getElem? (i := 23) rfl)
theorem tb_3_0 : Cond.instanceMethod yX0_init ∈ TB := tb_in3 _ (List.mem_of_getElem? (i := 0) rfl)
theorem tb_3_1 : Cond.code yX0_init cX0_init 1 none ∈ TB := tb_in3 _ (List.mem_of_getElem? (i := 1) rfl)
theorem tb_3_2 : Cond.methodLink RX0 3 objectInit ∈ TB := tb_in3 _ (List.mem_of_getElem? (i := 2) rfl)
theorem tb_3_3 : Cond.classLink RX0 9 RX2 ∈ TB := tb_in3 _ (List.mem_of_getElem? (i := 3) rfl)
theorem tb_3_4 : Cond.fieldLink RX0 12 "GridSums$Division" "quotient" "LGridSums$Wide;" ∈ TB := tb_in3 _ (List.mem_of_getElem? (i := 4) rfl)
theorem tb_3_5 : Cond.fieldLink RX0 18 "GridSums$Division" "rest" "LGridSums$Wide;" ∈ TB := tb_in3 _ (List.mem_of_getElem? (i := 5) rfl)
theorem tb_3_6 : Cond.fieldLink RX0 21 "GridSums$Division" "divisor" "LGridSums$Wide;" ∈ TB := tb_in3 _ (List.mem_of_getElem? (i := 6) rfl)
theorem tb_3_7 : Cond.fieldLink RX0 24 "GridSums$Division" "limit" "LGridSums$Wide;" ∈ TB := tb_in3 _ (List.mem_of_getElem? (i := 7) rfl)
theorem tb_3_8 : Cond.fieldLink RX0 27 "GridSums$Division" "common" "LGridSums$Wide;" ∈ TB := tb_in3 _ (List.mem_of_getElem? (i := 8) rfl)
theorem tb_3_9 : Cond.methodLink RL 43 yX4_init ∈ TB := tb_in3 _ (List.mem_of_getElem? (i := 9) rfl)
theorem tb_3_10 : Cond.instanceMethod yX4_init ∈ TB := tb_in3 _ (List.mem_of_getElem? (i := 10) rfl)
theorem tb_3_11 : Cond.code yX4_init cX4_init 1 none ∈ TB := tb_in3 _ (List.mem_of_getElem? (i := 11) rfl)
theorem tb_3_12 : Cond.methodLink RX4 1 objectInit ∈ TB := tb_in3 _ (List.mem_of_getElem? (i := 12) rfl)
theorem tb_3_13 : Cond.fieldLink RX4 7 "GridSumsModel" "w" "[J" ∈ TB := tb_in3 _ (List.mem_of_getElem? (i := 13) rfl)
theorem tb_3_14 : Cond.arrayClass .int ∈ TB := tb_in3 _ (List.mem_of_getElem? (i := 14) rfl)
theorem tb_3_15 : Cond.fieldLink RX4 13 "GridSumsModel" "sign" "[I" ∈ TB := tb_in3 _ (List.mem_of_getElem? (i := 15) rfl)
theorem tb_3_16 : Cond.fieldLink RX4 17 "GridSumsModel" "made" "[J" ∈ TB := tb_in3 _ (List.mem_of_getElem? (i := 16) rfl)
theorem tb_3_17 : Cond.fieldLink RX4 20 "GridSumsModel" "told" "[Z" ∈ TB := tb_in3 _ (List.mem_of_getElem? (i := 17) rfl)
theorem tb_3_18 : Cond.fieldLink RX4 24 "GridSumsModel" "fromX" "[J" ∈ TB := tb_in3 _ (List.mem_of_getElem? (i := 18) rfl)
theorem tb_3_19 : Cond.fieldLink RX4 27 "GridSumsModel" "fromY" "[J" ∈ TB := tb_in3 _ (List.mem_of_getElem? (i := 19) rfl)
theorem tb_3_20 : Cond.fieldLink RX4 30 "GridSumsModel" "toX" "[J" ∈ TB := tb_in3 _ (List.mem_of_getElem? (i := 20) rfl)
theorem tb_3_21 : Cond.fieldLink RX4 33 "GridSumsModel" "toY" "[J" ∈ TB := tb_in3 _ (List.mem_of_getElem? (i := 21) rfl)
theorem tb_3_22 : Cond.fieldLink RX4 36 "GridSumsModel" "cornerX" "[J" ∈ TB := tb_in3 _ (List.mem_of_getElem? (i := 22) rfl)
theorem tb_3_23 : Cond.fieldLink RX4 39 "GridSumsModel" "cornerY" "[J" ∈ TB := tb_in3 _ (List.mem_of_getElem? (i := 23) rfl)
theorem tb_4_0 : Cond.methodLink RL 46 yX3_turn ∈ TB := tb_in4 _ (List.mem_of_getElem? (i := 0) rfl)
theorem tb_4_1 : Cond.instanceMethod yX3_turn ∈ TB := tb_in4 _ (List.mem_of_getElem? (i := 1) rfl)
theorem tb_4_2 : Cond.selects RX3 yX3_turn yX3_turn ∈ TB := tb_in4 _ (List.mem_of_getElem? (i := 2) rfl)
theorem tb_4_3 : Cond.code yX3_turn cX3_turn 13 (some .int) ∈ TB := tb_in4 _ (List.mem_of_getElem? (i := 3) rfl)
theorem tb_4_4 : Cond.methodLink RX3 70 yX3_isOnGrid ∈ TB := tb_in4 _ (List.mem_of_getElem? (i := 4) rfl)
theorem tb_4_5 : Cond.static yX3_isOnGrid ∈ TB := tb_in4 _ (List.mem_of_getElem? (i := 5) rfl)
theorem tb_4_6 : Cond.code yX3_isOnGrid cX3_isOnGrid 4 (some .boolean) ∈ TB := tb_in4 _ (List.mem_of_getElem? (i := 6) rfl)
theorem tb_4_7 : Cond.constantLong RX3 165 (-1099511627776) ∈ TB := tb_in4 _ (List.mem_of_getElem? (i := 7) rfl)
theorem tb_4_8 : Cond.constantLong RX3 167 (1099511627776) ∈ TB := tb_in4 _ (List.mem_of_getElem? (i := 8) rfl)
theorem tb_4_9 : Cond.methodLink RX3 74 yX3_sideOf ∈ TB := tb_in4 _ (List.mem_of_getElem? (i := 9) rfl)
theorem tb_4_10 : Cond.instanceMethod yX3_sideOf ∈ TB := tb_in4 _ (List.mem_of_getElem? (i := 10) rfl)
theorem tb_4_11 : Cond.selects RX3 yX3_sideOf yX3_sideOf ∈ TB := tb_in4 _ (List.mem_of_getElem? (i := 11) rfl)
theorem tb_4_12 : Cond.code yX3_sideOf cX3_sideOf 13 (some .int) ∈ TB := tb_in4 _ (List.mem_of_getElem? (i := 12) rfl)
theorem tb_4_13 : Cond.methodLink RX3 82 yX2_putSpan ∈ TB := tb_in4 _ (List.mem_of_getElem? (i := 13) rfl)
theorem tb_4_14 : Cond.instanceMethod yX2_putSpan ∈ TB := tb_in4 _ (List.mem_of_getElem? (i := 14) rfl)
theorem tb_4_15 : Cond.selects RX2 yX2_putSpan yX2_putSpan ∈ TB := tb_in4 _ (List.mem_of_getElem? (i := 15) rfl)
theorem tb_4_16 : Cond.code yX2_putSpan cX2_putSpan 9 none ∈ TB := tb_in4 _ (List.mem_of_getElem? (i := 16) rfl)
theorem tb_4_17 : Cond.methodLink RX2 42 yX2_put ∈ TB := tb_in4 _ (List.mem_of_getElem? (i := 17) rfl)
theorem tb_4_18 : Cond.instanceMethod yX2_put ∈ TB := tb_in4 _ (List.mem_of_getElem? (i := 18) rfl)
theorem tb_4_19 : Cond.selects RX2 yX2_put yX2_put ∈ TB := tb_in4 _ (List.mem_of_getElem? (i := 19) rfl)
theorem tb_4_20 : Cond.code yX2_put cX2_put 3 none ∈ TB := tb_in4 _ (List.mem_of_getElem? (i := 20) rfl)
theorem tb_4_21 : Cond.fieldLink RX2 9 "GridSums$Wide" "low" "J" ∈ TB := tb_in4 _ (List.mem_of_getElem? (i := 21) rfl)
theorem tb_4_22 : Cond.constantLong RX2 15 (-1) ∈ TB := tb_in4 _ (List.mem_of_getElem? (i := 22) rfl)
theorem tb_4_23 : Cond.fieldLink RX2 17 "GridSums$Wide" "high" "J" ∈ TB := tb_in4 _ (List.mem_of_getElem? (i := 23) rfl)
theorem tb_5_0 : Cond.methodLink RX2 46 yX2_addSpan ∈ TB := tb_in5 _ (List.mem_of_getElem? (i := 0) rfl)
theorem tb_5_1 : Cond.instanceMethod yX2_addSpan ∈ TB := tb_in5 _ (List.mem_of_getElem? (i := 1) rfl)
theorem tb_5_2 : Cond.selects RX2 yX2_addSpan yX2_addSpan ∈ TB := tb_in5 _ (List.mem_of_getElem? (i := 2) rfl)
theorem tb_5_3 : Cond.code yX2_addSpan cX2_addSpan 9 none ∈ TB := tb_in5 _ (List.mem_of_getElem? (i := 3) rfl)
theorem tb_5_4 : Cond.methodLink RX2 39 yX2_addProduct ∈ TB := tb_in5 _ (List.mem_of_getElem? (i := 4) rfl)
theorem tb_5_5 : Cond.instanceMethod yX2_addProduct ∈ TB := tb_in5 _ (List.mem_of_getElem? (i := 5) rfl)
theorem tb_5_6 : Cond.selects RX2 yX2_addProduct yX2_addProduct ∈ TB := tb_in5 _ (List.mem_of_getElem? (i := 6) rfl)
theorem tb_5_7 : Cond.code yX2_addProduct cX2_addProduct 5 none ∈ TB := tb_in5 _ (List.mem_of_getElem? (i := 7) rfl)
theorem tb_5_8 : Cond.methodLink RX2 31 yX2_highOfProduct ∈ TB := tb_in5 _ (List.mem_of_getElem? (i := 8) rfl)
theorem tb_5_9 : Cond.static yX2_highOfProduct ∈ TB := tb_in5 _ (List.mem_of_getElem? (i := 9) rfl)
theorem tb_5_10 : Cond.code yX2_highOfProduct cX2_highOfProduct 16 (some .long) ∈ TB := tb_in5 _ (List.mem_of_getElem? (i := 10) rfl)
theorem tb_5_11 : Cond.constantLong RX2 57 (4294967295) ∈ TB := tb_in5 _ (List.mem_of_getElem? (i := 11) rfl)
theorem tb_5_12 : Cond.methodLink RX2 35 yX2_addParts ∈ TB := tb_in5 _ (List.mem_of_getElem? (i := 12) rfl)
theorem tb_5_13 : Cond.instanceMethod yX2_addParts ∈ TB := tb_in5 _ (List.mem_of_getElem? (i := 13) rfl)
theorem tb_5_14 : Cond.selects RX2 yX2_addParts yX2_addParts ∈ TB := tb_in5 _ (List.mem_of_getElem? (i := 14) rfl)
theorem tb_5_15 : Cond.code yX2_addParts cX2_addParts 5 none ∈ TB := tb_in5 _ (List.mem_of_getElem? (i := 15) rfl)
theorem tb_5_16 : Cond.methodLink RX2 27 yX2_isBelowUnsigned ∈ TB := tb_in5 _ (List.mem_of_getElem? (i := 16) rfl)
theorem tb_5_17 : Cond.static yX2_isBelowUnsigned ∈ TB := tb_in5 _ (List.mem_of_getElem? (i := 17) rfl)
theorem tb_5_18 : Cond.code yX2_isBelowUnsigned cX2_isBelowUnsigned 4 (some .boolean) ∈ TB := tb_in5 _ (List.mem_of_getElem? (i := 18) rfl)
theorem tb_5_19 : Cond.constantLong RX2 59 (-9223372036854775808) ∈ TB := tb_in5 _ (List.mem_of_getElem? (i := 19) rfl)
theorem tb_5_20 : Cond.methodLink RX3 86 yX2_sign ∈ TB := tb_in5 _ (List.mem_of_getElem? (i := 20) rfl)
theorem tb_5_21 : Cond.instanceMethod yX2_sign ∈ TB := tb_in5 _ (List.mem_of_getElem? (i := 21) rfl)
theorem tb_5_22 : Cond.selects RX2 yX2_sign yX2_sign ∈ TB := tb_in5 _ (List.mem_of_getElem? (i := 22) rfl)
theorem tb_5_23 : Cond.code yX2_sign cX2_sign 1 (some .int) ∈ TB := tb_in5 _ (List.mem_of_getElem? (i := 23) rfl)
theorem tb_6_0 : Cond.methodLink RL 50 yX4_turn ∈ TB := tb_in6 _ (List.mem_of_getElem? (i := 0) rfl)
theorem tb_6_1 : Cond.instanceMethod yX4_turn ∈ TB := tb_in6 _ (List.mem_of_getElem? (i := 1) rfl)
theorem tb_6_2 : Cond.selects RX4 yX4_turn yX4_turn ∈ TB := tb_in6 _ (List.mem_of_getElem? (i := 2) rfl)
theorem tb_6_3 : Cond.code yX4_turn cX4_turn 13 (some .int) ∈ TB := tb_in6 _ (List.mem_of_getElem? (i := 3) rfl)
theorem tb_6_4 : Cond.fieldLink RX4 42 "GridSumsModel" "code" "I" ∈ TB := tb_in6 _ (List.mem_of_getElem? (i := 4) rfl)
theorem tb_6_5 : Cond.methodLink RX4 103 yX4_isPlace ∈ TB := tb_in6 _ (List.mem_of_getElem? (i := 5) rfl)
theorem tb_6_6 : Cond.static yX4_isPlace ∈ TB := tb_in6 _ (List.mem_of_getElem? (i := 6) rfl)
theorem tb_6_7 : Cond.code yX4_isPlace cX4_isPlace 4 (some .boolean) ∈ TB := tb_in6 _ (List.mem_of_getElem? (i := 7) rfl)
theorem tb_6_8 : Cond.constantLong RX4 95 (-1099511627776) ∈ TB := tb_in6 _ (List.mem_of_getElem? (i := 8) rfl)
theorem tb_6_9 : Cond.constantLong RX4 97 (1099511627776) ∈ TB := tb_in6 _ (List.mem_of_getElem? (i := 9) rfl)
theorem tb_6_10 : Cond.methodLink RX4 107 yX4_turned ∈ TB := tb_in6 _ (List.mem_of_getElem? (i := 10) rfl)
theorem tb_6_11 : Cond.instanceMethod yX4_turned ∈ TB := tb_in6 _ (List.mem_of_getElem? (i := 11) rfl)
theorem tb_6_12 : Cond.selects RX4 yX4_turned yX4_turned ∈ TB := tb_in6 _ (List.mem_of_getElem? (i := 12) rfl)
theorem tb_6_13 : Cond.code yX4_turned cX4_turned 13 (some .int) ∈ TB := tb_in6 _ (List.mem_of_getElem? (i := 13) rfl)
theorem tb_6_14 : Cond.methodLink RX4 99 yX4_determinant ∈ TB := tb_in6 _ (List.mem_of_getElem? (i := 14) rfl)
theorem tb_6_15 : Cond.instanceMethod yX4_determinant ∈ TB := tb_in6 _ (List.mem_of_getElem? (i := 15) rfl)
theorem tb_6_16 : Cond.selects RX4 yX4_determinant yX4_determinant ∈ TB := tb_in6 _ (List.mem_of_getElem? (i := 16) rfl)
theorem tb_6_17 : Cond.code yX4_determinant cX4_determinant 10 none ∈ TB := tb_in6 _ (List.mem_of_getElem? (i := 17) rfl)
theorem tb_6_18 : Cond.methodLink RX4 60 yX4_put ∈ TB := tb_in6 _ (List.mem_of_getElem? (i := 18) rfl)
theorem tb_6_19 : Cond.instanceMethod yX4_put ∈ TB := tb_in6 _ (List.mem_of_getElem? (i := 19) rfl)
theorem tb_6_20 : Cond.selects RX4 yX4_put yX4_put ∈ TB := tb_in6 _ (List.mem_of_getElem? (i := 20) rfl)
theorem tb_6_21 : Cond.code yX4_put cX4_put 7 none ∈ TB := tb_in6 _ (List.mem_of_getElem? (i := 21) rfl)
theorem tb_6_22 : Cond.constantLong RX4 46 (4294967295) ∈ TB := tb_in6 _ (List.mem_of_getElem? (i := 22) rfl)
theorem tb_6_23 : Cond.methodLink RX4 84 yX4_times ∈ TB := tb_in6 _ (List.mem_of_getElem? (i := 23) rfl)
theorem tb_7_0 : Cond.instanceMethod yX4_times ∈ TB := tb_in7 _ (List.mem_of_getElem? (i := 0) rfl)
theorem tb_7_1 : Cond.selects RX4 yX4_times yX4_times ∈ TB := tb_in7 _ (List.mem_of_getElem? (i := 1) rfl)
theorem tb_7_2 : Cond.code yX4_times cX4_times 10 none ∈ TB := tb_in7 _ (List.mem_of_getElem? (i := 2) rfl)
theorem tb_7_3 : Cond.methodLink RX4 88 yX4_sum ∈ TB := tb_in7 _ (List.mem_of_getElem? (i := 3) rfl)
theorem tb_7_4 : Cond.instanceMethod yX4_sum ∈ TB := tb_in7 _ (List.mem_of_getElem? (i := 4) rfl)
theorem tb_7_5 : Cond.selects RX4 yX4_sum yX4_sum ∈ TB := tb_in7 _ (List.mem_of_getElem? (i := 5) rfl)
theorem tb_7_6 : Cond.code yX4_sum cX4_sum 6 none ∈ TB := tb_in7 _ (List.mem_of_getElem? (i := 6) rfl)
theorem tb_7_7 : Cond.methodLink RX4 48 yX4_change ∈ TB := tb_in7 _ (List.mem_of_getElem? (i := 7) rfl)
theorem tb_7_8 : Cond.instanceMethod yX4_change ∈ TB := tb_in7 _ (List.mem_of_getElem? (i := 8) rfl)
theorem tb_7_9 : Cond.selects RX4 yX4_change yX4_change ∈ TB := tb_in7 _ (List.mem_of_getElem? (i := 9) rfl)
theorem tb_7_10 : Cond.code yX4_change cX4_change 10 none ∈ TB := tb_in7 _ (List.mem_of_getElem? (i := 10) rfl)
theorem tb_7_11 : Cond.methodLink RX4 52 yX4_compare ∈ TB := tb_in7 _ (List.mem_of_getElem? (i := 11) rfl)
theorem tb_7_12 : Cond.instanceMethod yX4_compare ∈ TB := tb_in7 _ (List.mem_of_getElem? (i := 12) rfl)
theorem tb_7_13 : Cond.selects RX4 yX4_compare yX4_compare ∈ TB := tb_in7 _ (List.mem_of_getElem? (i := 13) rfl)
theorem tb_7_14 : Cond.code yX4_compare cX4_compare 4 (some .int) ∈ TB := tb_in7 _ (List.mem_of_getElem? (i := 14) rfl)
theorem tb_7_15 : Cond.methodLink RX4 56 yX4_isNothing ∈ TB := tb_in7 _ (List.mem_of_getElem? (i := 15) rfl)
theorem tb_7_16 : Cond.instanceMethod yX4_isNothing ∈ TB := tb_in7 _ (List.mem_of_getElem? (i := 16) rfl)
theorem tb_7_17 : Cond.selects RX4 yX4_isNothing yX4_isNothing ∈ TB := tb_in7 _ (List.mem_of_getElem? (i := 17) rfl)
theorem tb_7_18 : Cond.code yX4_isNothing cX4_isNothing 4 (some .boolean) ∈ TB := tb_in7 _ (List.mem_of_getElem? (i := 18) rfl)
theorem tb_7_19 : Cond.methodLink RL 51 yX3_line ∈ TB := tb_in7 _ (List.mem_of_getElem? (i := 19) rfl)
theorem tb_7_20 : Cond.instanceMethod yX3_line ∈ TB := tb_in7 _ (List.mem_of_getElem? (i := 20) rfl)
theorem tb_7_21 : Cond.selects RX3 yX3_line yX3_line ∈ TB := tb_in7 _ (List.mem_of_getElem? (i := 21) rfl)
theorem tb_7_22 : Cond.code yX3_line cX3_line 10 (some .boolean) ∈ TB := tb_in7 _ (List.mem_of_getElem? (i := 22) rfl)
theorem tb_7_23 : Cond.methodLink RL 55 yX4_line ∈ TB := tb_in7 _ (List.mem_of_getElem? (i := 23) rfl)
theorem tb_8_0 : Cond.instanceMethod yX4_line ∈ TB := tb_in8 _ (List.mem_of_getElem? (i := 0) rfl)
theorem tb_8_1 : Cond.selects RX4 yX4_line yX4_line ∈ TB := tb_in8 _ (List.mem_of_getElem? (i := 1) rfl)
theorem tb_8_2 : Cond.code yX4_line cX4_line 10 (some .boolean) ∈ TB := tb_in8 _ (List.mem_of_getElem? (i := 2) rfl)
theorem tb_8_3 : Cond.fieldLink RX4 114 "GridSumsModel" "lines" "I" ∈ TB := tb_in8 _ (List.mem_of_getElem? (i := 3) rfl)
theorem tb_8_4 : Cond.methodLink RX4 111 yX4_isLine ∈ TB := tb_in8 _ (List.mem_of_getElem? (i := 4) rfl)
theorem tb_8_5 : Cond.static yX4_isLine ∈ TB := tb_in8 _ (List.mem_of_getElem? (i := 5) rfl)
theorem tb_8_6 : Cond.code yX4_isLine cX4_isLine 1 (some .boolean) ∈ TB := tb_in8 _ (List.mem_of_getElem? (i := 6) rfl)
theorem tb_8_7 : Cond.methodLink RL 56 yX3_cross ∈ TB := tb_in8 _ (List.mem_of_getElem? (i := 7) rfl)
theorem tb_8_8 : Cond.instanceMethod yX3_cross ∈ TB := tb_in8 _ (List.mem_of_getElem? (i := 8) rfl)
theorem tb_8_9 : Cond.selects RX3 yX3_cross yX3_cross ∈ TB := tb_in8 _ (List.mem_of_getElem? (i := 9) rfl)
theorem tb_8_10 : Cond.code yX3_cross cX3_cross 4 (some .int) ∈ TB := tb_in8 _ (List.mem_of_getElem? (i := 10) rfl)
theorem tb_8_11 : Cond.methodLink RX3 78 yX3_isTold ∈ TB := tb_in8 _ (List.mem_of_getElem? (i := 11) rfl)
theorem tb_8_12 : Cond.instanceMethod yX3_isTold ∈ TB := tb_in8 _ (List.mem_of_getElem? (i := 12) rfl)
theorem tb_8_13 : Cond.selects RX3 yX3_isTold yX3_isTold ∈ TB := tb_in8 _ (List.mem_of_getElem? (i := 13) rfl)
theorem tb_8_14 : Cond.code yX3_isTold cX3_isTold 2 (some .boolean) ∈ TB := tb_in8 _ (List.mem_of_getElem? (i := 14) rfl)
theorem tb_8_15 : Cond.methodLink RX3 90 yX3_meetOfParallels ∈ TB := tb_in8 _ (List.mem_of_getElem? (i := 15) rfl)
theorem tb_8_16 : Cond.instanceMethod yX3_meetOfParallels ∈ TB := tb_in8 _ (List.mem_of_getElem? (i := 16) rfl)
theorem tb_8_17 : Cond.selects RX3 yX3_meetOfParallels yX3_meetOfParallels ∈ TB := tb_in8 _ (List.mem_of_getElem? (i := 17) rfl)
theorem tb_8_18 : Cond.code yX3_meetOfParallels cX3_meetOfParallels 17 (some .int) ∈ TB := tb_in8 _ (List.mem_of_getElem? (i := 18) rfl)
theorem tb_8_19 : Cond.methodLink RX3 169 Lib.MathLoose.min_long.x ∈ TB := tb_in8 _ (List.mem_of_getElem? (i := 19) rfl)
theorem tb_8_20 : Cond.static Lib.MathLoose.min_long.x ∈ TB := tb_in8 _ (List.mem_of_getElem? (i := 20) rfl)
theorem tb_8_21 : Cond.initialized "java/lang/Math" ∈ TB := tb_in8 _ (List.mem_of_getElem? (i := 21) rfl)
theorem tb_8_22 : Cond.code Lib.MathLoose.min_long.x Lib.MathLoose.min_long.code 4 (some .long) ∈ TB := tb_in8 _ (List.mem_of_getElem? (i := 22) rfl)
theorem tb_8_23 : Cond.methodLink RX3 172 Lib.MathLoose.max_long.x ∈ TB := tb_in8 _ (List.mem_of_getElem? (i := 23) rfl)
theorem tb_9_0 : Cond.static Lib.MathLoose.max_long.x ∈ TB := tb_in9 _ (List.mem_of_getElem? (i := 0) rfl)
theorem tb_9_1 : Cond.code Lib.MathLoose.max_long.x Lib.MathLoose.max_long.code 4 (some .long) ∈ TB := tb_in9 _ (List.mem_of_getElem? (i := 1) rfl)
theorem tb_9_2 : Cond.methodLink RX3 194 yX1_putWhole ∈ TB := tb_in9 _ (List.mem_of_getElem? (i := 2) rfl)
theorem tb_9_3 : Cond.instanceMethod yX1_putWhole ∈ TB := tb_in9 _ (List.mem_of_getElem? (i := 3) rfl)
theorem tb_9_4 : Cond.selects RX1 yX1_putWhole yX1_putWhole ∈ TB := tb_in9 _ (List.mem_of_getElem? (i := 4) rfl)
theorem tb_9_5 : Cond.code yX1_putWhole cX1_putWhole 3 none ∈ TB := tb_in9 _ (List.mem_of_getElem? (i := 5) rfl)
theorem tb_9_6 : Cond.methodLink RX1 19 yX2_put ∈ TB := tb_in9 _ (List.mem_of_getElem? (i := 6) rfl)
theorem tb_9_7 : Cond.methodLink RX3 94 yX3_meetOfOthers ∈ TB := tb_in9 _ (List.mem_of_getElem? (i := 7) rfl)
theorem tb_9_8 : Cond.instanceMethod yX3_meetOfOthers ∈ TB := tb_in9 _ (List.mem_of_getElem? (i := 8) rfl)
theorem tb_9_9 : Cond.selects RX3 yX3_meetOfOthers yX3_meetOfOthers ∈ TB := tb_in9 _ (List.mem_of_getElem? (i := 9) rfl)
theorem tb_9_10 : Cond.code yX3_meetOfOthers cX3_meetOfOthers 7 (some .int) ∈ TB := tb_in9 _ (List.mem_of_getElem? (i := 10) rfl)
theorem tb_9_11 : Cond.methodLink RX3 175 yX2_negate ∈ TB := tb_in9 _ (List.mem_of_getElem? (i := 11) rfl)
theorem tb_9_12 : Cond.instanceMethod yX2_negate ∈ TB := tb_in9 _ (List.mem_of_getElem? (i := 12) rfl)
theorem tb_9_13 : Cond.selects RX2 yX2_negate yX2_negate ∈ TB := tb_in9 _ (List.mem_of_getElem? (i := 13) rfl)
theorem tb_9_14 : Cond.code yX2_negate cX2_negate 1 none ∈ TB := tb_in9 _ (List.mem_of_getElem? (i := 14) rfl)
theorem tb_9_15 : Cond.methodLink RX3 178 yX3_isPartOfSpan ∈ TB := tb_in9 _ (List.mem_of_getElem? (i := 15) rfl)
theorem tb_9_16 : Cond.instanceMethod yX3_isPartOfSpan ∈ TB := tb_in9 _ (List.mem_of_getElem? (i := 16) rfl)
theorem tb_9_17 : Cond.selects RX3 yX3_isPartOfSpan yX3_isPartOfSpan ∈ TB := tb_in9 _ (List.mem_of_getElem? (i := 17) rfl)
theorem tb_9_18 : Cond.code yX3_isPartOfSpan cX3_isPartOfSpan 2 (some .boolean) ∈ TB := tb_in9 _ (List.mem_of_getElem? (i := 18) rfl)
theorem tb_9_19 : Cond.methodLink RX3 190 yX2_compare ∈ TB := tb_in9 _ (List.mem_of_getElem? (i := 19) rfl)
theorem tb_9_20 : Cond.instanceMethod yX2_compare ∈ TB := tb_in9 _ (List.mem_of_getElem? (i := 20) rfl)
theorem tb_9_21 : Cond.selects RX2 yX2_compare yX2_compare ∈ TB := tb_in9 _ (List.mem_of_getElem? (i := 21) rfl)
theorem tb_9_22 : Cond.code yX2_compare cX2_compare 2 (some .int) ∈ TB := tb_in9 _ (List.mem_of_getElem? (i := 22) rfl)
theorem tb_9_23 : Cond.methodLink RX3 182 yX1_putOnWay ∈ TB := tb_in9 _ (List.mem_of_getElem? (i := 23) rfl)
theorem tb_10_0 : Cond.instanceMethod yX1_putOnWay ∈ TB := tb_in10 _ (List.mem_of_getElem? (i := 0) rfl)
theorem tb_10_1 : Cond.selects RX1 yX1_putOnWay yX1_putOnWay ∈ TB := tb_in10 _ (List.mem_of_getElem? (i := 1) rfl)
theorem tb_10_2 : Cond.code yX1_putOnWay cX1_putOnWay 7 none ∈ TB := tb_in10 _ (List.mem_of_getElem? (i := 2) rfl)
theorem tb_10_3 : Cond.methodLink RX1 23 yX2_addScaled ∈ TB := tb_in10 _ (List.mem_of_getElem? (i := 3) rfl)
theorem tb_10_4 : Cond.instanceMethod yX2_addScaled ∈ TB := tb_in10 _ (List.mem_of_getElem? (i := 4) rfl)
theorem tb_10_5 : Cond.selects RX2 yX2_addScaled yX2_addScaled ∈ TB := tb_in10 _ (List.mem_of_getElem? (i := 5) rfl)
theorem tb_10_6 : Cond.code yX2_addScaled cX2_addScaled 8 none ∈ TB := tb_in10 _ (List.mem_of_getElem? (i := 6) rfl)
theorem tb_10_7 : Cond.methodLink RX1 27 yX2_copy ∈ TB := tb_in10 _ (List.mem_of_getElem? (i := 7) rfl)
theorem tb_10_8 : Cond.instanceMethod yX2_copy ∈ TB := tb_in10 _ (List.mem_of_getElem? (i := 8) rfl)
theorem tb_10_9 : Cond.selects RX2 yX2_copy yX2_copy ∈ TB := tb_in10 _ (List.mem_of_getElem? (i := 9) rfl)
theorem tb_10_10 : Cond.code yX2_copy cX2_copy 2 none ∈ TB := tb_in10 _ (List.mem_of_getElem? (i := 10) rfl)
theorem tb_10_11 : Cond.methodLink RX3 186 yX1_reduce ∈ TB := tb_in10 _ (List.mem_of_getElem? (i := 11) rfl)
theorem tb_10_12 : Cond.instanceMethod yX1_reduce ∈ TB := tb_in10 _ (List.mem_of_getElem? (i := 12) rfl)
theorem tb_10_13 : Cond.selects RX1 yX1_reduce yX1_reduce ∈ TB := tb_in10 _ (List.mem_of_getElem? (i := 13) rfl)
theorem tb_10_14 : Cond.code yX1_reduce cX1_reduce 2 none ∈ TB := tb_in10 _ (List.mem_of_getElem? (i := 14) rfl)
theorem tb_10_15 : Cond.methodLink RX1 31 yX0_findCommon ∈ TB := tb_in10 _ (List.mem_of_getElem? (i := 15) rfl)
theorem tb_10_16 : Cond.instanceMethod yX0_findCommon ∈ TB := tb_in10 _ (List.mem_of_getElem? (i := 16) rfl)
theorem tb_10_17 : Cond.selects RX0 yX0_findCommon yX0_findCommon ∈ TB := tb_in10 _ (List.mem_of_getElem? (i := 17) rfl)
theorem tb_10_18 : Cond.code yX0_findCommon cX0_findCommon 5 none ∈ TB := tb_in10 _ (List.mem_of_getElem? (i := 18) rfl)
theorem tb_10_19 : Cond.methodLink RX0 50 yX2_copyAmount ∈ TB := tb_in10 _ (List.mem_of_getElem? (i := 19) rfl)
theorem tb_10_20 : Cond.instanceMethod yX2_copyAmount ∈ TB := tb_in10 _ (List.mem_of_getElem? (i := 20) rfl)
theorem tb_10_21 : Cond.selects RX2 yX2_copyAmount yX2_copyAmount ∈ TB := tb_in10 _ (List.mem_of_getElem? (i := 21) rfl)
theorem tb_10_22 : Cond.code yX2_copyAmount cX2_copyAmount 2 none ∈ TB := tb_in10 _ (List.mem_of_getElem? (i := 22) rfl)
theorem tb_10_23 : Cond.methodLink RX2 20 yX2_copy ∈ TB := tb_in10 _ (List.mem_of_getElem? (i := 23) rfl)
theorem tb_11_0 : Cond.methodLink RX2 24 yX2_negate ∈ TB := tb_in11 _ (List.mem_of_getElem? (i := 0) rfl)
theorem tb_11_1 : Cond.methodLink RX0 54 yX2_copy ∈ TB := tb_in11 _ (List.mem_of_getElem? (i := 1) rfl)
theorem tb_11_2 : Cond.methodLink RX0 30 yX2_sign ∈ TB := tb_in11 _ (List.mem_of_getElem? (i := 2) rfl)
theorem tb_11_3 : Cond.methodLink RX0 77 yX2_isOdd ∈ TB := tb_in11 _ (List.mem_of_getElem? (i := 3) rfl)
theorem tb_11_4 : Cond.instanceMethod yX2_isOdd ∈ TB := tb_in11 _ (List.mem_of_getElem? (i := 4) rfl)
theorem tb_11_5 : Cond.selects RX2 yX2_isOdd yX2_isOdd ∈ TB := tb_in11 _ (List.mem_of_getElem? (i := 5) rfl)
theorem tb_11_6 : Cond.code yX2_isOdd cX2_isOdd 1 (some .boolean) ∈ TB := tb_in11 _ (List.mem_of_getElem? (i := 6) rfl)
theorem tb_11_7 : Cond.methodLink RX0 57 yX2_half ∈ TB := tb_in11 _ (List.mem_of_getElem? (i := 7) rfl)
theorem tb_11_8 : Cond.instanceMethod yX2_half ∈ TB := tb_in11 _ (List.mem_of_getElem? (i := 8) rfl)
theorem tb_11_9 : Cond.selects RX2 yX2_half yX2_half ∈ TB := tb_in11 _ (List.mem_of_getElem? (i := 9) rfl)
theorem tb_11_10 : Cond.code yX2_half cX2_half 1 none ∈ TB := tb_in11 _ (List.mem_of_getElem? (i := 10) rfl)
theorem tb_11_11 : Cond.methodLink RX0 81 yX0_takeLessFromGreater ∈ TB := tb_in11 _ (List.mem_of_getElem? (i := 11) rfl)
theorem tb_11_12 : Cond.instanceMethod yX0_takeLessFromGreater ∈ TB := tb_in11 _ (List.mem_of_getElem? (i := 12) rfl)
theorem tb_11_13 : Cond.selects RX0 yX0_takeLessFromGreater yX0_takeLessFromGreater ∈ TB := tb_in11 _ (List.mem_of_getElem? (i := 13) rfl)
theorem tb_11_14 : Cond.code yX0_takeLessFromGreater cX0_takeLessFromGreater 1 none ∈ TB := tb_in11 _ (List.mem_of_getElem? (i := 14) rfl)
theorem tb_11_15 : Cond.methodLink RX0 60 yX2_compare ∈ TB := tb_in11 _ (List.mem_of_getElem? (i := 15) rfl)
theorem tb_11_16 : Cond.methodLink RX0 67 yX2_subtract ∈ TB := tb_in11 _ (List.mem_of_getElem? (i := 16) rfl)
theorem tb_11_17 : Cond.instanceMethod yX2_subtract ∈ TB := tb_in11 _ (List.mem_of_getElem? (i := 17) rfl)
theorem tb_11_18 : Cond.selects RX2 yX2_subtract yX2_subtract ∈ TB := tb_in11 _ (List.mem_of_getElem? (i := 18) rfl)
theorem tb_11_19 : Cond.code yX2_subtract cX2_subtract 2 none ∈ TB := tb_in11 _ (List.mem_of_getElem? (i := 19) rfl)
theorem tb_11_20 : Cond.methodLink RX0 64 yX2_twice ∈ TB := tb_in11 _ (List.mem_of_getElem? (i := 20) rfl)
theorem tb_11_21 : Cond.instanceMethod yX2_twice ∈ TB := tb_in11 _ (List.mem_of_getElem? (i := 21) rfl)
theorem tb_11_22 : Cond.selects RX2 yX2_twice yX2_twice ∈ TB := tb_in11 _ (List.mem_of_getElem? (i := 22) rfl)
theorem tb_11_23 : Cond.code yX2_twice cX2_twice 1 none ∈ TB := tb_in11 _ (List.mem_of_getElem? (i := 23) rfl)
theorem tb_12_0 : Cond.methodLink RX1 37 yX0_takeCommonOut ∈ TB := tb_in12 _ (List.mem_of_getElem? (i := 0) rfl)
theorem tb_12_1 : Cond.instanceMethod yX0_takeCommonOut ∈ TB := tb_in12 _ (List.mem_of_getElem? (i := 1) rfl)
theorem tb_12_2 : Cond.selects RX0 yX0_takeCommonOut yX0_takeCommonOut ∈ TB := tb_in12 _ (List.mem_of_getElem? (i := 2) rfl)
theorem tb_12_3 : Cond.code yX0_takeCommonOut cX0_takeCommonOut 3 none ∈ TB := tb_in12 _ (List.mem_of_getElem? (i := 3) rfl)
theorem tb_12_4 : Cond.methodLink RX0 84 yX2_isOne ∈ TB := tb_in12 _ (List.mem_of_getElem? (i := 4) rfl)
theorem tb_12_5 : Cond.instanceMethod yX2_isOne ∈ TB := tb_in12 _ (List.mem_of_getElem? (i := 5) rfl)
theorem tb_12_6 : Cond.selects RX2 yX2_isOne yX2_isOne ∈ TB := tb_in12 _ (List.mem_of_getElem? (i := 6) rfl)
theorem tb_12_7 : Cond.code yX2_isOne cX2_isOne 1 (some .boolean) ∈ TB := tb_in12 _ (List.mem_of_getElem? (i := 7) rfl)
theorem tb_12_8 : Cond.methodLink RX0 34 yX0_divideAmounts ∈ TB := tb_in12 _ (List.mem_of_getElem? (i := 8) rfl)
theorem tb_12_9 : Cond.instanceMethod yX0_divideAmounts ∈ TB := tb_in12 _ (List.mem_of_getElem? (i := 9) rfl)
theorem tb_12_10 : Cond.selects RX0 yX0_divideAmounts yX0_divideAmounts ∈ TB := tb_in12 _ (List.mem_of_getElem? (i := 10) rfl)
theorem tb_12_11 : Cond.code yX0_divideAmounts cX0_divideAmounts 5 none ∈ TB := tb_in12 _ (List.mem_of_getElem? (i := 11) rfl)
theorem tb_12_12 : Cond.methodLink RX0 46 yX2_put ∈ TB := tb_in12 _ (List.mem_of_getElem? (i := 12) rfl)
theorem tb_12_13 : Cond.methodLink RX0 70 yX2_setLowestBit ∈ TB := tb_in12 _ (List.mem_of_getElem? (i := 13) rfl)
theorem tb_12_14 : Cond.instanceMethod yX2_setLowestBit ∈ TB := tb_in12 _ (List.mem_of_getElem? (i := 14) rfl)
theorem tb_12_15 : Cond.selects RX2 yX2_setLowestBit yX2_setLowestBit ∈ TB := tb_in12 _ (List.mem_of_getElem? (i := 15) rfl)
theorem tb_12_16 : Cond.code yX2_setLowestBit cX2_setLowestBit 1 none ∈ TB := tb_in12 _ (List.mem_of_getElem? (i := 16) rfl)
theorem tb_12_17 : Cond.methodLink RX0 87 yX2_negate ∈ TB := tb_in12 _ (List.mem_of_getElem? (i := 17) rfl)
theorem tb_12_18 : Cond.methodLink RL 60 yX4_cross ∈ TB := tb_in12 _ (List.mem_of_getElem? (i := 18) rfl)
theorem tb_12_19 : Cond.instanceMethod yX4_cross ∈ TB := tb_in12 _ (List.mem_of_getElem? (i := 19) rfl)
theorem tb_12_20 : Cond.selects RX4 yX4_cross yX4_cross ∈ TB := tb_in12 _ (List.mem_of_getElem? (i := 20) rfl)
theorem tb_12_21 : Cond.code yX4_cross cX4_cross 4 (some .int) ∈ TB := tb_in12 _ (List.mem_of_getElem? (i := 21) rfl)
theorem tb_12_22 : Cond.fieldLink RX4 134 "GridSumsModel" "atHand" "Z" ∈ TB := tb_in12 _ (List.mem_of_getElem? (i := 22) rfl)
theorem tb_12_23 : Cond.methodLink RX4 131 yX4_meet ∈ TB := tb_in12 _ (List.mem_of_getElem? (i := 23) rfl)
theorem tb_13_0 : Cond.instanceMethod yX4_meet ∈ TB := tb_in13 _ (List.mem_of_getElem? (i := 0) rfl)
theorem tb_13_1 : Cond.selects RX4 yX4_meet yX4_meet ∈ TB := tb_in13 _ (List.mem_of_getElem? (i := 1) rfl)
theorem tb_13_2 : Cond.code yX4_meet cX4_meet 16 (some .int) ∈ TB := tb_in13 _ (List.mem_of_getElem? (i := 2) rfl)
theorem tb_13_3 : Cond.methodLink RX4 124 yX4_overlap ∈ TB := tb_in13 _ (List.mem_of_getElem? (i := 3) rfl)
theorem tb_13_4 : Cond.instanceMethod yX4_overlap ∈ TB := tb_in13 _ (List.mem_of_getElem? (i := 4) rfl)
theorem tb_13_5 : Cond.selects RX4 yX4_overlap yX4_overlap ∈ TB := tb_in13 _ (List.mem_of_getElem? (i := 5) rfl)
theorem tb_13_6 : Cond.code yX4_overlap cX4_overlap 17 (some .int) ∈ TB := tb_in13 _ (List.mem_of_getElem? (i := 6) rfl)
theorem tb_13_7 : Cond.methodLink RX4 117 yX4_less ∈ TB := tb_in13 _ (List.mem_of_getElem? (i := 7) rfl)
theorem tb_13_8 : Cond.static yX4_less ∈ TB := tb_in13 _ (List.mem_of_getElem? (i := 8) rfl)
theorem tb_13_9 : Cond.code yX4_less cX4_less 4 (some .long) ∈ TB := tb_in13 _ (List.mem_of_getElem? (i := 9) rfl)
theorem tb_13_10 : Cond.methodLink RX4 127 yX4_place ∈ TB := tb_in13 _ (List.mem_of_getElem? (i := 10) rfl)
theorem tb_13_11 : Cond.instanceMethod yX4_place ∈ TB := tb_in13 _ (List.mem_of_getElem? (i := 11) rfl)
theorem tb_13_12 : Cond.selects RX4 yX4_place yX4_place ∈ TB := tb_in13 _ (List.mem_of_getElem? (i := 12) rfl)
theorem tb_13_13 : Cond.code yX4_place cX4_place 6 none ∈ TB := tb_in13 _ (List.mem_of_getElem? (i := 13) rfl)
theorem tb_13_14 : Cond.methodLink RX4 68 yX4_copy ∈ TB := tb_in13 _ (List.mem_of_getElem? (i := 14) rfl)
theorem tb_13_15 : Cond.instanceMethod yX4_copy ∈ TB := tb_in13 _ (List.mem_of_getElem? (i := 15) rfl)
theorem tb_13_16 : Cond.selects RX4 yX4_copy yX4_copy ∈ TB := tb_in13 _ (List.mem_of_getElem? (i := 16) rfl)
theorem tb_13_17 : Cond.code yX4_copy cX4_copy 4 none ∈ TB := tb_in13 _ (List.mem_of_getElem? (i := 17) rfl)
theorem tb_13_18 : Cond.methodLink RX4 121 yX4_reduce ∈ TB := tb_in13 _ (List.mem_of_getElem? (i := 18) rfl)
theorem tb_13_19 : Cond.instanceMethod yX4_reduce ∈ TB := tb_in13 _ (List.mem_of_getElem? (i := 19) rfl)
theorem tb_13_20 : Cond.selects RX4 yX4_reduce yX4_reduce ∈ TB := tb_in13 _ (List.mem_of_getElem? (i := 20) rfl)
theorem tb_13_21 : Cond.code yX4_reduce cX4_reduce 3 none ∈ TB := tb_in13 _ (List.mem_of_getElem? (i := 21) rfl)
theorem tb_13_22 : Cond.methodLink RX4 78 yX4_divisor ∈ TB := tb_in13 _ (List.mem_of_getElem? (i := 22) rfl)
theorem tb_13_23 : Cond.instanceMethod yX4_divisor ∈ TB := tb_in13 _ (List.mem_of_getElem? (i := 23) rfl)
theorem tb_14_0 : Cond.selects RX4 yX4_divisor yX4_divisor ∈ TB := tb_in14 _ (List.mem_of_getElem? (i := 0) rfl)
theorem tb_14_1 : Cond.code yX4_divisor cX4_divisor 5 none ∈ TB := tb_in14 _ (List.mem_of_getElem? (i := 1) rfl)
theorem tb_14_2 : Cond.methodLink RX4 72 yX4_isEven ∈ TB := tb_in14 _ (List.mem_of_getElem? (i := 2) rfl)
theorem tb_14_3 : Cond.instanceMethod yX4_isEven ∈ TB := tb_in14 _ (List.mem_of_getElem? (i := 3) rfl)
theorem tb_14_4 : Cond.selects RX4 yX4_isEven yX4_isEven ∈ TB := tb_in14 _ (List.mem_of_getElem? (i := 4) rfl)
theorem tb_14_5 : Cond.code yX4_isEven cX4_isEven 2 (some .boolean) ∈ TB := tb_in14 _ (List.mem_of_getElem? (i := 5) rfl)
theorem tb_14_6 : Cond.methodLink RX4 75 yX4_halve ∈ TB := tb_in14 _ (List.mem_of_getElem? (i := 6) rfl)
theorem tb_14_7 : Cond.instanceMethod yX4_halve ∈ TB := tb_in14 _ (List.mem_of_getElem? (i := 7) rfl)
theorem tb_14_8 : Cond.selects RX4 yX4_halve yX4_halve ∈ TB := tb_in14 _ (List.mem_of_getElem? (i := 8) rfl)
theorem tb_14_9 : Cond.code yX4_halve cX4_halve 5 none ∈ TB := tb_in14 _ (List.mem_of_getElem? (i := 9) rfl)
theorem tb_14_10 : Cond.methodLink RX4 64 yX4_twice ∈ TB := tb_in14 _ (List.mem_of_getElem? (i := 10) rfl)
theorem tb_14_11 : Cond.instanceMethod yX4_twice ∈ TB := tb_in14 _ (List.mem_of_getElem? (i := 11) rfl)
theorem tb_14_12 : Cond.selects RX4 yX4_twice yX4_twice ∈ TB := tb_in14 _ (List.mem_of_getElem? (i := 12) rfl)
theorem tb_14_13 : Cond.code yX4_twice cX4_twice 2 none ∈ TB := tb_in14 _ (List.mem_of_getElem? (i := 13) rfl)
theorem tb_14_14 : Cond.methodLink RX4 81 yX4_divide ∈ TB := tb_in14 _ (List.mem_of_getElem? (i := 14) rfl)
theorem tb_14_15 : Cond.instanceMethod yX4_divide ∈ TB := tb_in14 _ (List.mem_of_getElem? (i := 15) rfl)
theorem tb_14_16 : Cond.selects RX4 yX4_divide yX4_divide ∈ TB := tb_in14 _ (List.mem_of_getElem? (i := 16) rfl)
theorem tb_14_17 : Cond.code yX4_divide cX4_divide 4 none ∈ TB := tb_in14 _ (List.mem_of_getElem? (i := 17) rfl)
theorem tb_14_18 : Cond.methodLink RL 61 yX3_at ∈ TB := tb_in14 _ (List.mem_of_getElem? (i := 18) rfl)
theorem tb_14_19 : Cond.instanceMethod yX3_at ∈ TB := tb_in14 _ (List.mem_of_getElem? (i := 19) rfl)
theorem tb_14_20 : Cond.selects RX3 yX3_at yX3_at ∈ TB := tb_in14 _ (List.mem_of_getElem? (i := 20) rfl)
theorem tb_14_21 : Cond.code yX3_at cX3_at 3 (some .long) ∈ TB := tb_in14 _ (List.mem_of_getElem? (i := 21) rfl)
theorem tb_14_22 : Cond.constantLong RX3 100 (-4611686018427387904) ∈ TB := tb_in14 _ (List.mem_of_getElem? (i := 22) rfl)
theorem tb_14_23 : Cond.methodLink RX3 97 yX3_isAnswerable ∈ TB := tb_in14 _ (List.mem_of_getElem? (i := 23) rfl)
theorem tb_15_0 : Cond.instanceMethod yX3_isAnswerable ∈ TB := tb_in15 _ (List.mem_of_getElem? (i := 0) rfl)
theorem tb_15_1 : Cond.selects RX3 yX3_isAnswerable yX3_isAnswerable ∈ TB := tb_in15 _ (List.mem_of_getElem? (i := 1) rfl)
theorem tb_15_2 : Cond.code yX3_isAnswerable cX3_isAnswerable 2 (some .boolean) ∈ TB := tb_in15 _ (List.mem_of_getElem? (i := 2) rfl)
theorem tb_15_3 : Cond.methodLink RX3 108 yX0_rounded ∈ TB := tb_in15 _ (List.mem_of_getElem? (i := 3) rfl)
theorem tb_15_4 : Cond.instanceMethod yX0_rounded ∈ TB := tb_in15 _ (List.mem_of_getElem? (i := 4) rfl)
theorem tb_15_5 : Cond.selects RX0 yX0_rounded yX0_rounded ∈ TB := tb_in15 _ (List.mem_of_getElem? (i := 5) rfl)
theorem tb_15_6 : Cond.code yX0_rounded cX0_rounded 7 (some .long) ∈ TB := tb_in15 _ (List.mem_of_getElem? (i := 6) rfl)
theorem tb_15_7 : Cond.methodLink RX0 38 yX0_isOneMore ∈ TB := tb_in15 _ (List.mem_of_getElem? (i := 7) rfl)
theorem tb_15_8 : Cond.instanceMethod yX0_isOneMore ∈ TB := tb_in15 _ (List.mem_of_getElem? (i := 8) rfl)
theorem tb_15_9 : Cond.selects RX0 yX0_isOneMore yX0_isOneMore ∈ TB := tb_in15 _ (List.mem_of_getElem? (i := 9) rfl)
theorem tb_15_10 : Cond.code yX0_isOneMore cX0_isOneMore 3 (some .boolean) ∈ TB := tb_in15 _ (List.mem_of_getElem? (i := 10) rfl)
theorem tb_15_11 : Cond.methodLink RX0 73 yX0_isOneMoreNearer ∈ TB := tb_in15 _ (List.mem_of_getElem? (i := 11) rfl)
theorem tb_15_12 : Cond.instanceMethod yX0_isOneMoreNearer ∈ TB := tb_in15 _ (List.mem_of_getElem? (i := 12) rfl)
theorem tb_15_13 : Cond.selects RX0 yX0_isOneMoreNearer yX0_isOneMoreNearer ∈ TB := tb_in15 _ (List.mem_of_getElem? (i := 13) rfl)
theorem tb_15_14 : Cond.code yX0_isOneMoreNearer cX0_isOneMoreNearer 3 (some .boolean) ∈ TB := tb_in15 _ (List.mem_of_getElem? (i := 14) rfl)
theorem tb_15_15 : Cond.methodLink RL 64 yX4_at ∈ TB := tb_in15 _ (List.mem_of_getElem? (i := 15) rfl)
theorem tb_15_16 : Cond.instanceMethod yX4_at ∈ TB := tb_in15 _ (List.mem_of_getElem? (i := 16) rfl)
theorem tb_15_17 : Cond.selects RX4 yX4_at yX4_at ∈ TB := tb_in15 _ (List.mem_of_getElem? (i := 17) rfl)
theorem tb_15_18 : Cond.code yX4_at cX4_at 3 (some .long) ∈ TB := tb_in15 _ (List.mem_of_getElem? (i := 18) rfl)
theorem tb_15_19 : Cond.constantLong RX4 138 (-4611686018427387904) ∈ TB := tb_in15 _ (List.mem_of_getElem? (i := 19) rfl)
theorem tb_15_20 : Cond.methodLink RX4 140 yX4_bits ∈ TB := tb_in15 _ (List.mem_of_getElem? (i := 20) rfl)
theorem tb_15_21 : Cond.instanceMethod yX4_bits ∈ TB := tb_in15 _ (List.mem_of_getElem? (i := 21) rfl)
theorem tb_15_22 : Cond.selects RX4 yX4_bits yX4_bits ∈ TB := tb_in15 _ (List.mem_of_getElem? (i := 22) rfl)
theorem tb_15_23 : Cond.code yX4_bits cX4_bits 5 (some .long) ∈ TB := tb_in15 _ (List.mem_of_getElem? (i := 23) rfl)
theorem tb_16_0 : Cond.methodLink RL 65 yL_exact ∈ TB := tb_in16 _ (List.mem_of_getElem? (i := 0) rfl)
theorem tb_16_1 : Cond.static yL_exact ∈ TB := tb_in16 _ (List.mem_of_getElem? (i := 1) rfl)
theorem tb_16_2 : Cond.initialized RL ∈ TB := tb_in16 _ (List.mem_of_getElem? (i := 2) rfl)
theorem tb_16_3 : Cond.codeWith yL_exact cL_exact 6 (some .int) [(0, 11, 14, 13)] ∈ TB := tb_in16 _ (List.mem_of_getElem? (i := 3) rfl)
theorem tb_16_4 : Cond.classLink RL 13 "java/lang/IndexOutOfBoundsException" ∈ TB := tb_in16 _ (List.mem_of_getElem? (i := 4) rfl)
theorem tb_16_5 : Cond.methodLink RL 7 yX3_exact ∈ TB := tb_in16 _ (List.mem_of_getElem? (i := 5) rfl)
theorem tb_16_6 : Cond.instanceMethod yX3_exact ∈ TB := tb_in16 _ (List.mem_of_getElem? (i := 6) rfl)
theorem tb_16_7 : Cond.selects RX3 yX3_exact yX3_exact ∈ TB := tb_in16 _ (List.mem_of_getElem? (i := 7) rfl)
theorem tb_16_8 : Cond.code yX3_exact cX3_exact 5 (some .long) ∈ TB := tb_in16 _ (List.mem_of_getElem? (i := 8) rfl)
theorem tb_16_9 : Cond.methodLink RX3 112 yX3_limbOf ∈ TB := tb_in16 _ (List.mem_of_getElem? (i := 9) rfl)
theorem tb_16_10 : Cond.static yX3_limbOf ∈ TB := tb_in16 _ (List.mem_of_getElem? (i := 10) rfl)
theorem tb_16_11 : Cond.code yX3_limbOf cX3_limbOf 2 (some .long) ∈ TB := tb_in16 _ (List.mem_of_getElem? (i := 11) rfl)
theorem tb_16_12 : Cond.classLink RX3 144 "java/lang/IndexOutOfBoundsException" ∈ TB := tb_in16 _ (List.mem_of_getElem? (i := 12) rfl)
theorem tb_16_13 : Cond.initialized "java/lang/IndexOutOfBoundsException" ∈ TB := tb_in16 _ (List.mem_of_getElem? (i := 13) rfl)
theorem tb_16_14 : Cond.methodLink RX3 202 yX2_limbs ∈ TB := tb_in16 _ (List.mem_of_getElem? (i := 14) rfl)
theorem tb_16_15 : Cond.instanceMethod yX2_limbs ∈ TB := tb_in16 _ (List.mem_of_getElem? (i := 15) rfl)
theorem tb_16_16 : Cond.selects RX2 yX2_limbs yX2_limbs ∈ TB := tb_in16 _ (List.mem_of_getElem? (i := 16) rfl)
theorem tb_16_17 : Cond.code yX2_limbs cX2_limbs 3 (some .int) ∈ TB := tb_in16 _ (List.mem_of_getElem? (i := 17) rfl)
theorem tb_16_18 : Cond.methodLink RX2 50 yX2_highOfAmount ∈ TB := tb_in16 _ (List.mem_of_getElem? (i := 18) rfl)
theorem tb_16_19 : Cond.instanceMethod yX2_highOfAmount ∈ TB := tb_in16 _ (List.mem_of_getElem? (i := 19) rfl)
theorem tb_16_20 : Cond.selects RX2 yX2_highOfAmount yX2_highOfAmount ∈ TB := tb_in16 _ (List.mem_of_getElem? (i := 20) rfl)
theorem tb_16_21 : Cond.code yX2_highOfAmount cX2_highOfAmount 1 (some .long) ∈ TB := tb_in16 _ (List.mem_of_getElem? (i := 21) rfl)
theorem tb_16_22 : Cond.methodLink RX2 54 yX2_lowOfAmount ∈ TB := tb_in16 _ (List.mem_of_getElem? (i := 22) rfl)
theorem tb_16_23 : Cond.instanceMethod yX2_lowOfAmount ∈ TB := tb_in16 _ (List.mem_of_getElem? (i := 23) rfl)
theorem tb_17_0 : Cond.selects RX2 yX2_lowOfAmount yX2_lowOfAmount ∈ TB := tb_in17 _ (List.mem_of_getElem? (i := 0) rfl)
theorem tb_17_1 : Cond.code yX2_lowOfAmount cX2_lowOfAmount 1 (some .long) ∈ TB := tb_in17 _ (List.mem_of_getElem? (i := 1) rfl)
theorem tb_17_2 : Cond.methodLink RX3 207 yX2_limbOfAmount ∈ TB := tb_in17 _ (List.mem_of_getElem? (i := 2) rfl)
theorem tb_17_3 : Cond.instanceMethod yX2_limbOfAmount ∈ TB := tb_in17 _ (List.mem_of_getElem? (i := 3) rfl)
theorem tb_17_4 : Cond.selects RX2 yX2_limbOfAmount yX2_limbOfAmount ∈ TB := tb_in17 _ (List.mem_of_getElem? (i := 4) rfl)
theorem tb_17_5 : Cond.code yX2_limbOfAmount cX2_limbOfAmount 4 (some .long) ∈ TB := tb_in17 _ (List.mem_of_getElem? (i := 5) rfl)
theorem tb_17_6 : Cond.methodLink RL 70 yX4_exact ∈ TB := tb_in17 _ (List.mem_of_getElem? (i := 6) rfl)
theorem tb_17_7 : Cond.instanceMethod yX4_exact ∈ TB := tb_in17 _ (List.mem_of_getElem? (i := 7) rfl)
theorem tb_17_8 : Cond.selects RX4 yX4_exact yX4_exact ∈ TB := tb_in17 _ (List.mem_of_getElem? (i := 8) rfl)
theorem tb_17_9 : Cond.code yX4_exact cX4_exact 4 (some .long) ∈ TB := tb_in17 _ (List.mem_of_getElem? (i := 9) rfl)
theorem tb_17_10 : Cond.methodLink RX4 144 yX4_limbOf ∈ TB := tb_in17 _ (List.mem_of_getElem? (i := 10) rfl)
theorem tb_17_11 : Cond.instanceMethod yX4_limbOf ∈ TB := tb_in17 _ (List.mem_of_getElem? (i := 11) rfl)
theorem tb_17_12 : Cond.selects RX4 yX4_limbOf yX4_limbOf ∈ TB := tb_in17 _ (List.mem_of_getElem? (i := 12) rfl)
theorem tb_17_13 : Cond.code yX4_limbOf cX4_limbOf 3 (some .long) ∈ TB := tb_in17 _ (List.mem_of_getElem? (i := 13) rfl)
theorem tb_17_14 : Cond.methodLink RX4 91 yX4_limbs ∈ TB := tb_in17 _ (List.mem_of_getElem? (i := 14) rfl)
theorem tb_17_15 : Cond.instanceMethod yX4_limbs ∈ TB := tb_in17 _ (List.mem_of_getElem? (i := 15) rfl)
theorem tb_17_16 : Cond.selects RX4 yX4_limbs yX4_limbs ∈ TB := tb_in17 _ (List.mem_of_getElem? (i := 16) rfl)
theorem tb_17_17 : Cond.code yX4_limbs cX4_limbs 3 (some .int) ∈ TB := tb_in17 _ (List.mem_of_getElem? (i := 17) rfl)
theorem tb_17_18 : Cond.methodLink RL 71 yX4_thrown ∈ TB := tb_in17 _ (List.mem_of_getElem? (i := 18) rfl)
theorem tb_17_19 : Cond.instanceMethod yX4_thrown ∈ TB := tb_in17 _ (List.mem_of_getElem? (i := 19) rfl)
theorem tb_17_20 : Cond.selects RX4 yX4_thrown yX4_thrown ∈ TB := tb_in17 _ (List.mem_of_getElem? (i := 20) rfl)
theorem tb_17_21 : Cond.code yX4_thrown cX4_thrown 1 (some .int) ∈ TB := tb_in17 _ (List.mem_of_getElem? (i := 21) rfl)
theorem tb_17_22 : Cond.methodLink RL 75 yX3_corner ∈ TB := tb_in17 _ (List.mem_of_getElem? (i := 22) rfl)
theorem tb_17_23 : Cond.instanceMethod yX3_corner ∈ TB := tb_in17 _ (List.mem_of_getElem? (i := 23) rfl)
theorem tb_18_0 : Cond.selects RX3 yX3_corner yX3_corner ∈ TB := tb_in18 _ (List.mem_of_getElem? (i := 0) rfl)
theorem tb_18_1 : Cond.code yX3_corner cX3_corner 5 (some .boolean) ∈ TB := tb_in18 _ (List.mem_of_getElem? (i := 1) rfl)
theorem tb_18_2 : Cond.methodLink RL 79 yX4_corner ∈ TB := tb_in18 _ (List.mem_of_getElem? (i := 2) rfl)
theorem tb_18_3 : Cond.instanceMethod yX4_corner ∈ TB := tb_in18 _ (List.mem_of_getElem? (i := 3) rfl)
theorem tb_18_4 : Cond.selects RX4 yX4_corner yX4_corner ∈ TB := tb_in18 _ (List.mem_of_getElem? (i := 4) rfl)
theorem tb_18_5 : Cond.code yX4_corner cX4_corner 5 (some .boolean) ∈ TB := tb_in18 _ (List.mem_of_getElem? (i := 5) rfl)
theorem tb_18_6 : Cond.fieldLink RX4 148 "GridSumsModel" "corners" "I" ∈ TB := tb_in18 _ (List.mem_of_getElem? (i := 6) rfl)
theorem tb_18_7 : Cond.methodLink RL 80 yL_area2 ∈ TB := tb_in18 _ (List.mem_of_getElem? (i := 7) rfl)
theorem tb_18_8 : Cond.static yL_area2 ∈ TB := tb_in18 _ (List.mem_of_getElem? (i := 8) rfl)
theorem tb_18_9 : Cond.codeWith yL_area2 cL_area2 4 (some .int) [(0, 8, 11, 13)] ∈ TB := tb_in18 _ (List.mem_of_getElem? (i := 9) rfl)
theorem tb_18_10 : Cond.methodLink RL 15 yX3_area2 ∈ TB := tb_in18 _ (List.mem_of_getElem? (i := 10) rfl)
theorem tb_18_11 : Cond.instanceMethod yX3_area2 ∈ TB := tb_in18 _ (List.mem_of_getElem? (i := 11) rfl)
theorem tb_18_12 : Cond.selects RX3 yX3_area2 yX3_area2 ∈ TB := tb_in18 _ (List.mem_of_getElem? (i := 12) rfl)
theorem tb_18_13 : Cond.code yX3_area2 cX3_area2 4 (some .long) ∈ TB := tb_in18 _ (List.mem_of_getElem? (i := 13) rfl)
theorem tb_18_14 : Cond.methodLink RX3 116 yX2_put ∈ TB := tb_in18 _ (List.mem_of_getElem? (i := 14) rfl)
theorem tb_18_15 : Cond.methodLink RX3 120 yX3_cornerBehind ∈ TB := tb_in18 _ (List.mem_of_getElem? (i := 15) rfl)
theorem tb_18_16 : Cond.instanceMethod yX3_cornerBehind ∈ TB := tb_in18 _ (List.mem_of_getElem? (i := 16) rfl)
theorem tb_18_17 : Cond.selects RX3 yX3_cornerBehind yX3_cornerBehind ∈ TB := tb_in18 _ (List.mem_of_getElem? (i := 17) rfl)
theorem tb_18_18 : Cond.code yX3_cornerBehind cX3_cornerBehind 2 (some .int) ∈ TB := tb_in18 _ (List.mem_of_getElem? (i := 18) rfl)
theorem tb_18_19 : Cond.methodLink RX3 124 yX2_addSpan ∈ TB := tb_in18 _ (List.mem_of_getElem? (i := 19) rfl)
theorem tb_18_20 : Cond.methodLink RL 83 yX4_area2 ∈ TB := tb_in18 _ (List.mem_of_getElem? (i := 20) rfl)
theorem tb_18_21 : Cond.instanceMethod yX4_area2 ∈ TB := tb_in18 _ (List.mem_of_getElem? (i := 21) rfl)
theorem tb_18_22 : Cond.selects RX4 yX4_area2 yX4_area2 ∈ TB := tb_in18 _ (List.mem_of_getElem? (i := 22) rfl)
theorem tb_18_23 : Cond.code yX4_area2 cX4_area2 4 (some .long) ∈ TB := tb_in18 _ (List.mem_of_getElem? (i := 23) rfl)
theorem tb_19_0 : Cond.methodLink RL 84 yX3_inside ∈ TB := tb_in19 _ (List.mem_of_getElem? (i := 0) rfl)
theorem tb_19_1 : Cond.instanceMethod yX3_inside ∈ TB := tb_in19 _ (List.mem_of_getElem? (i := 1) rfl)
theorem tb_19_2 : Cond.selects RX3 yX3_inside yX3_inside ∈ TB := tb_in19 _ (List.mem_of_getElem? (i := 2) rfl)
theorem tb_19_3 : Cond.code yX3_inside cX3_inside 9 (some .int) ∈ TB := tb_in19 _ (List.mem_of_getElem? (i := 3) rfl)
theorem tb_19_4 : Cond.methodLink RX3 127 yX3_isBetween ∈ TB := tb_in19 _ (List.mem_of_getElem? (i := 4) rfl)
theorem tb_19_5 : Cond.static yX3_isBetween ∈ TB := tb_in19 _ (List.mem_of_getElem? (i := 5) rfl)
theorem tb_19_6 : Cond.code yX3_isBetween cX3_isBetween 6 (some .boolean) ∈ TB := tb_in19 _ (List.mem_of_getElem? (i := 6) rfl)
theorem tb_19_7 : Cond.methodLink RX3 131 yX3_meetsRay ∈ TB := tb_in19 _ (List.mem_of_getElem? (i := 7) rfl)
theorem tb_19_8 : Cond.static yX3_meetsRay ∈ TB := tb_in19 _ (List.mem_of_getElem? (i := 8) rfl)
theorem tb_19_9 : Cond.code yX3_meetsRay cX3_meetsRay 7 (some .boolean) ∈ TB := tb_in19 _ (List.mem_of_getElem? (i := 9) rfl)
theorem tb_19_10 : Cond.methodLink RL 88 yX4_inside ∈ TB := tb_in19 _ (List.mem_of_getElem? (i := 10) rfl)
theorem tb_19_11 : Cond.instanceMethod yX4_inside ∈ TB := tb_in19 _ (List.mem_of_getElem? (i := 11) rfl)
theorem tb_19_12 : Cond.selects RX4 yX4_inside yX4_inside ∈ TB := tb_in19 _ (List.mem_of_getElem? (i := 12) rfl)
theorem tb_19_13 : Cond.code yX4_inside cX4_inside 21 (some .int) ∈ TB := tb_in19 _ (List.mem_of_getElem? (i := 13) rfl)
theorem tb_19_14 : Cond.methodLink RL 89 yL_over ∈ TB := tb_in19 _ (List.mem_of_getElem? (i := 14) rfl)
theorem tb_19_15 : Cond.static yL_over ∈ TB := tb_in19 _ (List.mem_of_getElem? (i := 15) rfl)
theorem tb_19_16 : Cond.codeWith yL_over cL_over 8 (some .int) [(0, 12, 15, 23)] ∈ TB := tb_in19 _ (List.mem_of_getElem? (i := 16) rfl)
theorem tb_19_17 : Cond.classLink RL 23 "java/lang/ArithmeticException" ∈ TB := tb_in19 _ (List.mem_of_getElem? (i := 17) rfl)
theorem tb_19_18 : Cond.methodLink RL 19 yX3_over ∈ TB := tb_in19 _ (List.mem_of_getElem? (i := 18) rfl)
theorem tb_19_19 : Cond.instanceMethod yX3_over ∈ TB := tb_in19 _ (List.mem_of_getElem? (i := 19) rfl)
theorem tb_19_20 : Cond.selects RX3 yX3_over yX3_over ∈ TB := tb_in19 _ (List.mem_of_getElem? (i := 20) rfl)
theorem tb_19_21 : Cond.code yX3_over cX3_over 6 (some .long) ∈ TB := tb_in19 _ (List.mem_of_getElem? (i := 21) rfl)
theorem tb_19_22 : Cond.methodLink RX3 135 yX3_ratioByRule ∈ TB := tb_in19 _ (List.mem_of_getElem? (i := 22) rfl)
theorem tb_19_23 : Cond.instanceMethod yX3_ratioByRule ∈ TB := tb_in19 _ (List.mem_of_getElem? (i := 23) rfl)
theorem tb_20_0 : Cond.selects RX3 yX3_ratioByRule yX3_ratioByRule ∈ TB := tb_in20 _ (List.mem_of_getElem? (i := 0) rfl)
theorem tb_20_1 : Cond.code yX3_ratioByRule cX3_ratioByRule 8 (some .long) ∈ TB := tb_in20 _ (List.mem_of_getElem? (i := 1) rfl)
theorem tb_20_2 : Cond.classLink RX3 197 "java/lang/ArithmeticException" ∈ TB := tb_in20 _ (List.mem_of_getElem? (i := 2) rfl)
theorem tb_20_3 : Cond.initialized "java/lang/ArithmeticException" ∈ TB := tb_in20 _ (List.mem_of_getElem? (i := 3) rfl)
theorem tb_20_4 : Cond.methodLink RX3 139 yX2_addProduct ∈ TB := tb_in20 _ (List.mem_of_getElem? (i := 4) rfl)
theorem tb_20_5 : Cond.methodLink RL 92 yX4_over ∈ TB := tb_in20 _ (List.mem_of_getElem? (i := 5) rfl)
theorem tb_20_6 : Cond.instanceMethod yX4_over ∈ TB := tb_in20 _ (List.mem_of_getElem? (i := 6) rfl)
theorem tb_20_7 : Cond.selects RX4 yX4_over yX4_over ∈ TB := tb_in20 _ (List.mem_of_getElem? (i := 7) rfl)
theorem tb_20_8 : Cond.code yX4_over cX4_over 7 (some .long) ∈ TB := tb_in20 _ (List.mem_of_getElem? (i := 8) rfl)
theorem tb_20_9 : Cond.methodLink RX4 154 yX4_ratioOf ∈ TB := tb_in20 _ (List.mem_of_getElem? (i := 9) rfl)
theorem tb_20_10 : Cond.instanceMethod yX4_ratioOf ∈ TB := tb_in20 _ (List.mem_of_getElem? (i := 10) rfl)
theorem tb_20_11 : Cond.selects RX4 yX4_ratioOf yX4_ratioOf ∈ TB := tb_in20 _ (List.mem_of_getElem? (i := 11) rfl)
theorem tb_20_12 : Cond.code yX4_ratioOf cX4_ratioOf 9 (some .long) ∈ TB := tb_in20 _ (List.mem_of_getElem? (i := 12) rfl)
theorem tb_20_13 : Cond.methodLink RX4 151 yX4_quotient ∈ TB := tb_in20 _ (List.mem_of_getElem? (i := 13) rfl)
theorem tb_20_14 : Cond.instanceMethod yX4_quotient ∈ TB := tb_in20 _ (List.mem_of_getElem? (i := 14) rfl)
theorem tb_20_15 : Cond.selects RX4 yX4_quotient yX4_quotient ∈ TB := tb_in20 _ (List.mem_of_getElem? (i := 15) rfl)
theorem tb_20_16 : Cond.code yX4_quotient cX4_quotient 9 (some .long) ∈ TB := tb_in20 _ (List.mem_of_getElem? (i := 16) rfl)
theorem tb_20_17 : Cond.methodLink RL 93 yL_product ∈ TB := tb_in20 _ (List.mem_of_getElem? (i := 17) rfl)
theorem tb_20_18 : Cond.static yL_product ∈ TB := tb_in20 _ (List.mem_of_getElem? (i := 18) rfl)
theorem tb_20_19 : Cond.codeWith yL_product cL_product 8 (some .int) [(0, 12, 15, 13)] ∈ TB := tb_in20 _ (List.mem_of_getElem? (i := 19) rfl)
theorem tb_20_20 : Cond.methodLink RL 25 yX3_product ∈ TB := tb_in20 _ (List.mem_of_getElem? (i := 20) rfl)
theorem tb_20_21 : Cond.instanceMethod yX3_product ∈ TB := tb_in20 _ (List.mem_of_getElem? (i := 21) rfl)
theorem tb_20_22 : Cond.selects RX3 yX3_product yX3_product ∈ TB := tb_in20 _ (List.mem_of_getElem? (i := 22) rfl)
theorem tb_20_23 : Cond.code yX3_product cX3_product 6 (some .long) ∈ TB := tb_in20 _ (List.mem_of_getElem? (i := 23) rfl)
theorem tb_21_0 : Cond.methodLink RL 95 yX4_product ∈ TB := tb_in21 _ (List.mem_of_getElem? (i := 0) rfl)
theorem tb_21_1 : Cond.instanceMethod yX4_product ∈ TB := tb_in21 _ (List.mem_of_getElem? (i := 1) rfl)
theorem tb_21_2 : Cond.selects RX4 yX4_product yX4_product ∈ TB := tb_in21 _ (List.mem_of_getElem? (i := 2) rfl)
theorem tb_21_3 : Cond.code yX4_product cX4_product 6 (some .long) ∈ TB := tb_in21 _ (List.mem_of_getElem? (i := 3) rfl)
theorem tb_21_4 : Cond.methodLink RL 96 yL_ratio ∈ TB := tb_in21 _ (List.mem_of_getElem? (i := 4) rfl)
theorem tb_21_5 : Cond.static yL_ratio ∈ TB := tb_in21 _ (List.mem_of_getElem? (i := 5) rfl)
theorem tb_21_6 : Cond.codeWith yL_ratio cL_ratio 10 (some .int) [(0, 14, 17, 23)] ∈ TB := tb_in21 _ (List.mem_of_getElem? (i := 6) rfl)
theorem tb_21_7 : Cond.methodLink RL 28 yX3_ratio ∈ TB := tb_in21 _ (List.mem_of_getElem? (i := 7) rfl)
theorem tb_21_8 : Cond.instanceMethod yX3_ratio ∈ TB := tb_in21 _ (List.mem_of_getElem? (i := 8) rfl)
theorem tb_21_9 : Cond.selects RX3 yX3_ratio yX3_ratio ∈ TB := tb_in21 _ (List.mem_of_getElem? (i := 9) rfl)
theorem tb_21_10 : Cond.code yX3_ratio cX3_ratio 8 (some .long) ∈ TB := tb_in21 _ (List.mem_of_getElem? (i := 10) rfl)
theorem tb_21_11 : Cond.methodLink RL 99 yX4_ratio ∈ TB := tb_in21 _ (List.mem_of_getElem? (i := 11) rfl)
theorem tb_21_12 : Cond.instanceMethod yX4_ratio ∈ TB := tb_in21 _ (List.mem_of_getElem? (i := 12) rfl)
theorem tb_21_13 : Cond.selects RX4 yX4_ratio yX4_ratio ∈ TB := tb_in21 _ (List.mem_of_getElem? (i := 13) rfl)
theorem tb_21_14 : Cond.code yX4_ratio cX4_ratio 9 (some .long) ∈ TB := tb_in21 _ (List.mem_of_getElem? (i := 14) rfl)
theorem tb_21_15 : Cond.methodLink RL 100 yL_share ∈ TB := tb_in21 _ (List.mem_of_getElem? (i := 15) rfl)
theorem tb_21_16 : Cond.static yL_share ∈ TB := tb_in21 _ (List.mem_of_getElem? (i := 16) rfl)
theorem tb_21_17 : Cond.codeWith yL_share cL_share 7 (some .int) [(0, 12, 15, 13)] ∈ TB := tb_in21 _ (List.mem_of_getElem? (i := 17) rfl)
theorem tb_21_18 : Cond.methodLink RL 32 yX3_share ∈ TB := tb_in21 _ (List.mem_of_getElem? (i := 18) rfl)
theorem tb_21_19 : Cond.instanceMethod yX3_share ∈ TB := tb_in21 _ (List.mem_of_getElem? (i := 19) rfl)
theorem tb_21_20 : Cond.selects RX3 yX3_share yX3_share ∈ TB := tb_in21 _ (List.mem_of_getElem? (i := 20) rfl)
theorem tb_21_21 : Cond.code yX3_share cX3_share 9 (some .long) ∈ TB := tb_in21 _ (List.mem_of_getElem? (i := 21) rfl)
theorem tb_21_22 : Cond.constant RX3 143 (1000000) ∈ TB := tb_in21 _ (List.mem_of_getElem? (i := 22) rfl)
theorem tb_21_23 : Cond.methodLink RX3 151 yJ9_floorDiv_f86c9 ∈ TB := tb_in21 _ (List.mem_of_getElem? (i := 23) rfl)
theorem tb_22_0 : Cond.static yJ9_floorDiv_f86c9 ∈ TB := tb_in22 _ (List.mem_of_getElem? (i := 0) rfl)
theorem tb_22_1 : Cond.initialized RJ9 ∈ TB := tb_in22 _ (List.mem_of_getElem? (i := 1) rfl)
theorem tb_22_2 : Cond.code yJ9_floorDiv_f86c9 cJ9_floorDiv_f86c9 6 (some .long) ∈ TB := tb_in22 _ (List.mem_of_getElem? (i := 2) rfl)
theorem tb_22_3 : Cond.methodLink RX3 157 yJ9_floorMod_f86c9 ∈ TB := tb_in22 _ (List.mem_of_getElem? (i := 3) rfl)
theorem tb_22_4 : Cond.static yJ9_floorMod_f86c9 ∈ TB := tb_in22 _ (List.mem_of_getElem? (i := 4) rfl)
theorem tb_22_5 : Cond.code yJ9_floorMod_f86c9 cJ9_floorMod_f86c9 6 (some .long) ∈ TB := tb_in22 _ (List.mem_of_getElem? (i := 5) rfl)
theorem tb_22_6 : Cond.methodLink RL 103 yX4_share ∈ TB := tb_in22 _ (List.mem_of_getElem? (i := 6) rfl)
theorem tb_22_7 : Cond.instanceMethod yX4_share ∈ TB := tb_in22 _ (List.mem_of_getElem? (i := 7) rfl)
theorem tb_22_8 : Cond.selects RX4 yX4_share yX4_share ∈ TB := tb_in22 _ (List.mem_of_getElem? (i := 8) rfl)
theorem tb_22_9 : Cond.code yX4_share cX4_share 9 (some .long) ∈ TB := tb_in22 _ (List.mem_of_getElem? (i := 9) rfl)
theorem tb_22_10 : Cond.constant RX4 158 (1000000) ∈ TB := tb_in22 _ (List.mem_of_getElem? (i := 10) rfl)
theorem tb_22_11 : Cond.methodLink RL 104 yL_digit ∈ TB := tb_in22 _ (List.mem_of_getElem? (i := 11) rfl)
theorem tb_22_12 : Cond.static yL_digit ∈ TB := tb_in22 _ (List.mem_of_getElem? (i := 12) rfl)
theorem tb_22_13 : Cond.codeWith yL_digit cL_digit 7 (some .int) [(0, 13, 16, 13)] ∈ TB := tb_in22 _ (List.mem_of_getElem? (i := 13) rfl)
theorem tb_22_14 : Cond.methodLink RL 36 yX3_digit ∈ TB := tb_in22 _ (List.mem_of_getElem? (i := 14) rfl)
theorem tb_22_15 : Cond.instanceMethod yX3_digit ∈ TB := tb_in22 _ (List.mem_of_getElem? (i := 15) rfl)
theorem tb_22_16 : Cond.selects RX3 yX3_digit yX3_digit ∈ TB := tb_in22 _ (List.mem_of_getElem? (i := 16) rfl)
theorem tb_22_17 : Cond.code yX3_digit cX3_digit 8 (some .int) ∈ TB := tb_in22 _ (List.mem_of_getElem? (i := 17) rfl)
theorem tb_22_18 : Cond.methodLink RL 106 yX4_digit ∈ TB := tb_in22 _ (List.mem_of_getElem? (i := 18) rfl)
theorem tb_22_19 : Cond.instanceMethod yX4_digit ∈ TB := tb_in22 _ (List.mem_of_getElem? (i := 19) rfl)
theorem tb_22_20 : Cond.selects RX4 yX4_digit yX4_digit ∈ TB := tb_in22 _ (List.mem_of_getElem? (i := 20) rfl)
theorem tb_22_21 : Cond.code yX4_digit cX4_digit 18 (some .int) ∈ TB := tb_in22 _ (List.mem_of_getElem? (i := 21) rfl)
theorem tb_22_22 : Cond.methodLink RL 107 yX3_clear ∈ TB := tb_in22 _ (List.mem_of_getElem? (i := 22) rfl)
theorem tb_22_23 : Cond.instanceMethod yX3_clear ∈ TB := tb_in22 _ (List.mem_of_getElem? (i := 23) rfl)
theorem tb_23_0 : Cond.selects RX3 yX3_clear yX3_clear ∈ TB := tb_in23 _ (List.mem_of_getElem? (i := 0) rfl)
theorem tb_23_1 : Cond.code yX3_clear cX3_clear 2 none ∈ TB := tb_in23 _ (List.mem_of_getElem? (i := 1) rfl)
theorem tb_23_2 : Cond.methodLink RL 110 yX4_clear ∈ TB := tb_in23 _ (List.mem_of_getElem? (i := 2) rfl)
theorem tb_23_3 : Cond.instanceMethod yX4_clear ∈ TB := tb_in23 _ (List.mem_of_getElem? (i := 3) rfl)
theorem tb_23_4 : Cond.selects RX4 yX4_clear yX4_clear ∈ TB := tb_in23 _ (List.mem_of_getElem? (i := 4) rfl)
theorem tb_23_5 : Cond.code yX4_clear cX4_clear 2 none ∈ TB := tb_in23 _ (List.mem_of_getElem? (i := 5) rfl)
theorem tb_23_6 : Cond.methodLink RL 111 yX3_count ∈ TB := tb_in23 _ (List.mem_of_getElem? (i := 6) rfl)
theorem tb_23_7 : Cond.instanceMethod yX3_count ∈ TB := tb_in23 _ (List.mem_of_getElem? (i := 7) rfl)
theorem tb_23_8 : Cond.selects RX3 yX3_count yX3_count ∈ TB := tb_in23 _ (List.mem_of_getElem? (i := 8) rfl)
theorem tb_23_9 : Cond.code yX3_count cX3_count 2 (some .int) ∈ TB := tb_in23 _ (List.mem_of_getElem? (i := 9) rfl)
theorem tb_23_10 : Cond.methodLink RX3 162 yX3_linesTold ∈ TB := tb_in23 _ (List.mem_of_getElem? (i := 10) rfl)
theorem tb_23_11 : Cond.instanceMethod yX3_linesTold ∈ TB := tb_in23 _ (List.mem_of_getElem? (i := 11) rfl)
theorem tb_23_12 : Cond.selects RX3 yX3_linesTold yX3_linesTold ∈ TB := tb_in23 _ (List.mem_of_getElem? (i := 12) rfl)
theorem tb_23_13 : Cond.code yX3_linesTold cX3_linesTold 3 (some .int) ∈ TB := tb_in23 _ (List.mem_of_getElem? (i := 13) rfl)
theorem tb_23_14 : Cond.methodLink RL 115 yX4_count ∈ TB := tb_in23 _ (List.mem_of_getElem? (i := 14) rfl)
theorem tb_23_15 : Cond.instanceMethod yX4_count ∈ TB := tb_in23 _ (List.mem_of_getElem? (i := 15) rfl)
theorem tb_23_16 : Cond.selects RX4 yX4_count yX4_count ∈ TB := tb_in23 _ (List.mem_of_getElem? (i := 16) rfl)
theorem tb_23_17 : Cond.code yX4_count cX4_count 2 (some .int) ∈ TB := tb_in23 _ (List.mem_of_getElem? (i := 17) rfl)
def nWs : List Cond := [.methodLinkNest RX3 34 yX1_init "GridSums", .methodLinkNest RX1 9 yX2_init "GridSums", .methodLinkNest RX3 44 yX0_init "GridSums", .methodLinkNest RX0 11 yX2_init "GridSums", .methodLinkNest RX3 51 yX2_init "GridSums", .fieldLinkNest RX0 42 "GridSums$Wide" "low" "J" "GridSums", .fieldLinkNest RX3 102 "GridSums$Fraction" "upper" "LGridSums$Wide;" "GridSums", .fieldLinkNest RX3 105 "GridSums$Fraction" "lower" "LGridSums$Wide;" "GridSums"]
theorem nw_0 : Cond.methodLinkNest RX3 34 yX1_init "GridSums" ∈ nWs := List.mem_of_getElem? (i := 0) rfl
theorem nw_1 : Cond.methodLinkNest RX1 9 yX2_init "GridSums" ∈ nWs := List.mem_of_getElem? (i := 1) rfl
theorem nw_2 : Cond.methodLinkNest RX3 44 yX0_init "GridSums" ∈ nWs := List.mem_of_getElem? (i := 2) rfl
theorem nw_3 : Cond.methodLinkNest RX0 11 yX2_init "GridSums" ∈ nWs := List.mem_of_getElem? (i := 3) rfl
theorem nw_4 : Cond.methodLinkNest RX3 51 yX2_init "GridSums" ∈ nWs := List.mem_of_getElem? (i := 4) rfl
theorem nw_5 : Cond.fieldLinkNest RX0 42 "GridSums$Wide" "low" "J" "GridSums" ∈ nWs := List.mem_of_getElem? (i := 5) rfl
theorem nw_6 : Cond.fieldLinkNest RX3 102 "GridSums$Fraction" "upper" "LGridSums$Wide;" "GridSums" ∈ nWs := List.mem_of_getElem? (i := 6) rfl
theorem nw_7 : Cond.fieldLinkNest RX3 105 "GridSums$Fraction" "lower" "LGridSums$Wide;" "GridSums" ∈ nWs := List.mem_of_getElem? (i := 7) rfl
end
section
/-! THE BASE: one list of words (TB), one predicate of the tables (KK), contracts by worlds (Cv, Ci, Cl, Ri, Rl), their start, end and use. -/
def KK (D : va_G) (cZ cI cJ : ClassId) (U : State) : Prop := va_K D vwCl [(cZ, .boolean), (cI, .int), (cJ, .long)] U ∧ ∀ w ∈ nWs, va_Nw w U
def nw_form (w : Cond) : Bool := match w with
  | .fieldLinkNest .. => true
  | .methodLinkNest .. => true
  | _ => false
theorem nw_forms : ∀ w ∈ nWs, nw_form w = true := by decide +kernel
theorem nw_warm {s U : State} (hW : s.WarmedH U.vm) {w : Cond} (hf : nw_form w = true) (h : va_Nw w s) : va_Nw w U := by
  cases w <;> first | exact va_Nw.warmF hW h | exact va_Nw.warmM hW h | (simp [nw_form] at hf)
theorem nw_same {u U : State} (hvm : u.vm = U.vm) {w : Cond} (hf : nw_form w = true) (h : va_Nw w u) : va_Nw w U := by
  cases w <;> first | exact va_Nw.same rfl hvm h | (simp [nw_form] at hf)
theorem KK.warm {D : va_G} {cZ cI cJ : ClassId} {s U : State} (hW : s.WarmedH U.vm) (h : KK D cZ cI cJ s) : KK D cZ cI cJ U := ⟨va_K.moved hW.alike h.1, fun w hw => nw_warm hW (nw_forms w hw) (h.2 w hw)⟩
theorem KK.same {D : va_G} {cZ cI cJ : ClassId} {s U : State} (hvm : s.vm = U.vm) (h : KK D cZ cI cJ s) : KK D cZ cI cJ U := ⟨va_K.moved (by rw [hvm]; exact Vm.Alike.refl _) h.1, fun w hw => nw_same hvm (nw_forms w hw) (h.2 w hw)⟩
def PB (D : va_G) (cZ cI cJ : ClassId) (sz : Nat) (ws : va_W) (U : State) : Prop := U.heap.size = sz ∧ va_P D vwCl ws U.heap ∧ KK D cZ cI cJ U ∧ va_D (fun _ => True) ws
def PR (D : va_G) (cZ cI cJ : ClassId) (ws : va_W) (U : State) : Prop := va_P D vwCl ws U.heap ∧ KK D cZ cI cJ U
abbrev wT (y : MethodName) (cc : ByteArray) (maxL : Nat) (ret : Option FieldType) : List Cond := Cond.code y cc maxL ret :: TB
def WB {S : Type} (D : va_G) (A : Nat → Prop) (wo : S → va_W) (u : S) (t : State) : Prop := va_P D vwCl (wo u) t.heap ∧ va_D A (wo u)
def Cv (l : Launch) (D : va_G) (cZ cI cJ : ClassId) (y : MethodName) (cc : ByteArray) (maxL : Nat) (rm : Room) (av : List Value) (ws : va_W) {S : Type} (post : S → Prop) (wo : S → va_W) : Prop :=
  ∀ sz : Nat, Met l y (wT y cc maxL none) rm (va_Pc av (PB D cZ cI cJ sz ws)) (va_Qv post (WB D (va_A ws sz) wo) (va_A ws sz)) rm.cells rm.slots (va_A ws sz)
def Ci (l : Launch) (D : va_G) (cZ cI cJ : ClassId) (y : MethodName) (cc : ByteArray) (maxL : Nat) (ret : Option FieldType) (rm : Room) (av : List Value) (ws : va_W) {S : Type} (post : Int32 → S → Prop) (wo : S → va_W) : Prop :=
  ∀ sz : Nat, Met l y (wT y cc maxL ret) rm (va_Pc av (PB D cZ cI cJ sz ws)) (va_Qi post (WB D (va_A ws sz) wo) (va_A ws sz)) rm.cells rm.slots (va_A ws sz)
def Cl (l : Launch) (D : va_G) (cZ cI cJ : ClassId) (y : MethodName) (cc : ByteArray) (maxL : Nat) (ret : Option FieldType) (rm : Room) (av : List Value) (ws : va_W) {S : Type} (post : Int64 → S → Prop) (wo : S → va_W) : Prop :=
  ∀ sz : Nat, Met l y (wT y cc maxL ret) rm (va_Pc av (PB D cZ cI cJ sz ws)) (va_Ql post (WB D (va_A ws sz) wo) (va_A ws sz)) rm.cells rm.slots (va_A ws sz)
def Ri (l : Launch) (D : va_G) (cZ cI cJ : ClassId) (y : MethodName) (cc : ByteArray) (maxL : Nat) (ret : Option FieldType) (rm : Room) (av : List Value) (ws : va_W) (post : Int32 → Prop) : Prop :=
  Met l y (wT y cc maxL ret) rm (va_Pc av (PR D cZ cI cJ ws)) (vp_Si post) 0 0 (fun _ => False)
def Rl (l : Launch) (D : va_G) (cZ cI cJ : ClassId) (y : MethodName) (cc : ByteArray) (maxL : Nat) (ret : Option FieldType) (rm : Room) (av : List Value) (ws : va_W) (post : Int64 → Prop) : Prop :=
  Met l y (wT y cc maxL ret) rm (va_Pc av (PR D cZ cI cJ ws)) (vp_Sl post) 0 0 (fun _ => False)
/-- what holds where a method's body begins -/
def St (p : Program) (s : State) (m : MethodId) (meth : Method) (c : Code) (D : va_G) (cZ cI cJ : ClassId) (y : MethodName) (cc : ByteArray) (maxL : Nat) (ret : Option FieldType) (args : Array Value) : Prop :=
  p.tables.exec = Jvm.exec ∧ c.code = cc ∧ meth.sig.returnType = ret ∧ meth.locks = false ∧ c.maxLocals = maxL ∧ s.vm.findClass y.cls = some m.cls ∧ meth.name = y.name ∧ (∀ w ∈ TB, w.before args s = true) ∧ KK D cZ cI cJ s
section BASE1
variable {l : Launch} {D : va_G} {cZ cI cJ : ClassId} {y : MethodName} {cc : ByteArray} {maxL : Nat} {ret : Option FieldType} {rm : Room} {av : List Value} {ws : va_W} {S : Type}
theorem st_of {p : Program} {e : Env} {s : State} {m : MethodId} {args : Array Value} {below : List Frame} {meth : Method} {c : Code} {s₁ : State} (B : BodyLoose p l y (headSpec (wT y cc maxL ret) rm) cc maxL ret e s m args below meth c s₁) (hml : c.maxLocals = maxL) (hK : KK D cZ cI cJ s) : St p s m meth c D cZ cI cJ y cc maxL ret args :=
  ⟨B.exec, B.bytes, B.returns, B.notSynchronized, hml, findClass_of_methodNamed B.named, (name_of_methodNamed B.named B.method).1, fun w hw => atoms_spec (ws := wT y cc maxL ret) B.pre w (List.mem_cons_of_mem _ hw), hK⟩
end BASE1
theorem fm_of {α β : Type} {f : α → Option β} {is : List α} {w : List β} (h : is.map f = w.map some) : is.filterMap f = w := by
  induction is generalizing w with
  | nil => cases w with
    | nil => rfl
    | cons b w => simp at h
  | cons a is ih => cases w with
    | nil => simp at h
    | cons b w =>
      simp only [List.map_cons, List.cons.injEq] at h
      rw [List.filterMap_cons, h.1]
      simp [ih h.2]
section BASE2
variable {p : Program} {l : Launch} {e : Env} {R : Room} {s : State} {m : MethodId} {args : Array Value} {below : List Frame} {meth : Method} {c : Code} {H : Heap} {locs : List Loc} {cells slots : Nat} {Q : State → Prop}
variable {cc bytes : ByteArray} {pc nL maxL index n mc ms : Nat} {ls : Array Slot} {rest st0 : List Value} {D : va_G} {cZ cI cJ : ClassId} {A : Nat → Prop} {ws wc wr we : va_W} {S : Type} {own C : String} {y : MethodName} {ret : Option FieldType} {rm : Room} {b : Addr} {As : List Value}
/-! ends -/
theorem rt_v {post : S → Prop} {wo : S → va_W} (hx : p.tables.exec = Jvm.exec) (hb : c.code = cc) (hr : meth.sig.returnType = none) (hlocks : meth.locks = false) (hP : va_P D vwCl we H) (hD : va_D A we) (hS : va_S A s.heap H locs) (u : S) (hu : post u) (is : List Nat) (hs : is.map (fun i => we[i]?) = (wo u).map some) (hn : va_nd is = true) (hdg : decode cc pc = .ok (.return_, 1)) (h1 : cells ≤ mc) (h2 : slots ≤ ms) :
    W p l e R s m args below meth c H locs cells slots (MQ below (va_Qv post (WB D A wo) A) args s mc ms A) (F0 m pc ls []) :=
  W.widen h1 h2 (W.vret hx hb hr (fun _ ht _ => ⟨⟨u, rfl, hu, by rw [ht]; exact hP.sub is (fm_of hs), hD.sub is hn hs⟩, hS.F ht⟩) hS.2.2 hdg hlocks)
theorem rt_i {post : Int32 → S → Prop} {wo : S → va_W} {v : Int32} (hx : p.tables.exec = Jvm.exec) (hb : c.code = cc) (hr : meth.sig.returnType = some .int) (hlocks : meth.locks = false) (hP : va_P D vwCl we H) (hD : va_D A we) (hS : va_S A s.heap H locs) (u : S) (hu : post v u) (is : List Nat) (hs : is.map (fun i => we[i]?) = (wo u).map some) (hn : va_nd is = true) (hdg : decode cc pc = .ok (.ireturn, 1)) (h1 : cells ≤ mc) (h2 : slots ≤ ms) :
    W p l e R s m args below meth c H locs cells slots (MQ below (va_Qi post (WB D A wo) A) args s mc ms A) (F0 m pc ls [.int v]) :=
  W.widen h1 h2 (W.iret hx hb hr (fun _ ht _ => ⟨⟨v, u, rfl, hu, by rw [ht]; exact hP.sub is (fm_of hs), hD.sub is hn hs⟩, hS.F ht⟩) hS.2.2 hdg hlocks)
theorem rt_z {post : Int32 → S → Prop} {wo : S → va_W} {v : Int32} {ty : FieldType} (hx : p.tables.exec = Jvm.exec) (hb : c.code = cc) (hr : meth.sig.returnType = some ty) (hv : narrow ty (.int v) = .int v) (hlocks : meth.locks = false) (hP : va_P D vwCl we H) (hD : va_D A we) (hS : va_S A s.heap H locs) (u : S) (hu : post v u) (is : List Nat) (hs : is.map (fun i => we[i]?) = (wo u).map some) (hn : va_nd is = true) (hdg : decode cc pc = .ok (.ireturn, 1)) (h1 : cells ≤ mc) (h2 : slots ≤ ms) :
    W p l e R s m args below meth c H locs cells slots (MQ below (va_Qi post (WB D A wo) A) args s mc ms A) (F0 m pc ls [.int v]) :=
  W.widen h1 h2 (W.zret hx hb hr hv (fun _ ht _ => ⟨⟨v, u, rfl, hu, by rw [ht]; exact hP.sub is (fm_of hs), hD.sub is hn hs⟩, hS.F ht⟩) hS.2.2 hdg hlocks)
theorem rt_l {post : Int64 → S → Prop} {wo : S → va_W} {v : Int64} (hx : p.tables.exec = Jvm.exec) (hb : c.code = cc) (hr : meth.sig.returnType = some .long) (hlocks : meth.locks = false) (hP : va_P D vwCl we H) (hD : va_D A we) (hS : va_S A s.heap H locs) (u : S) (hu : post v u) (is : List Nat) (hs : is.map (fun i => we[i]?) = (wo u).map some) (hn : va_nd is = true) (hdg : decode cc pc = .ok (.lreturn, 1)) (h1 : cells ≤ mc) (h2 : slots ≤ ms) :
    W p l e R s m args below meth c H locs cells slots (MQ below (va_Ql post (WB D A wo) A) args s mc ms A) (F0 m pc ls [.long v]) :=
  W.widen h1 h2 (W.lret hx hb hr (fun _ ht _ => ⟨⟨v, u, rfl, hu, by rw [ht]; exact hP.sub is (fm_of hs), hD.sub is hn hs⟩, hS.F ht⟩) hS.2.2 hdg hlocks)
theorem rr_i {post : Int32 → Prop} {v : Int32} (hx : p.tables.exec = Jvm.exec) (hb : c.code = cc) (hr : meth.sig.returnType = some .int) (hlocks : meth.locks = false) (hu : post v) (hdg : decode cc pc = .ok (.ireturn, 1)) :
    W p l e R s m args below meth c s.heap [] 0 0 (MQ below (vp_Si post) args s 0 0 (fun _ => False)) (F0 m pc ls [.int v]) :=
  W.iret hx hb hr (fun _ ht _ => ⟨v, rfl, hu, ht⟩) (fun _ h => by cases h) hdg hlocks
theorem rr_z {post : Int32 → Prop} {v : Int32} {ty : FieldType} (hx : p.tables.exec = Jvm.exec) (hb : c.code = cc) (hr : meth.sig.returnType = some ty) (hv : narrow ty (.int v) = .int v) (hlocks : meth.locks = false) (hu : post v) (hdg : decode cc pc = .ok (.ireturn, 1)) :
    W p l e R s m args below meth c s.heap [] 0 0 (MQ below (vp_Si post) args s 0 0 (fun _ => False)) (F0 m pc ls [.int v]) :=
  W.zret hx hb hr hv (fun _ ht _ => ⟨v, rfl, hu, ht⟩) (fun _ h => by cases h) hdg hlocks
theorem rr_l {post : Int64 → Prop} {v : Int64} (hx : p.tables.exec = Jvm.exec) (hb : c.code = cc) (hr : meth.sig.returnType = some .long) (hlocks : meth.locks = false) (hu : post v) (hdg : decode cc pc = .ok (.lreturn, 1)) :
    W p l e R s m args below meth c s.heap [] 0 0 (MQ below (vp_Sl post) args s 0 0 (fun _ => False)) (F0 m pc ls [.long v]) :=
  W.lret hx hb hr (fun _ ht _ => ⟨v, rfl, hu, ht⟩) (fun _ h => by cases h) hdg hlocks
/-! the words of a call -/
theorem cw_V (hT : ∀ w ∈ TB, w.before args s = true) (hc : Cond.code y bytes maxL ret ∈ TB) (hi : Cond.initialized y.cls ∈ TB) (hl : Cond.methodLink own index y ∈ TB) (hin : Cond.instanceMethod y ∈ TB) (hse : Cond.selects C y y ∈ TB) (hd : y.cls ≠ "java/lang/invoke/MethodHandle" ∧ y.cls ≠ "java/lang/invoke/VarHandle" ∧ (parseMethodDescriptor y.desc).map (fun d => d.parameters.length) = some n) (hrc : rm.cells = mc) (hrs : rm.slots = ms) (hR : rm.frames + 1 ≤ R.frames ∧ 8 + (maxL + 11) + rm.locals ≤ R.locals) :
    CallW R s args own C index y bytes maxL ret (wT y bytes maxL ret) rm mc ms n := ⟨callB_of n hT (tb_G hc) rfl hrc hrs (hT _ hi) (hT _ hl) hd hR, hT _ hin, hT _ hse⟩
theorem cw_S (hT : ∀ w ∈ TB, w.before args s = true) (hc : Cond.code y bytes maxL ret ∈ TB) (hi : Cond.initialized y.cls ∈ TB) (hl : Cond.methodLink own index y ∈ TB) (hst : Cond.static y ∈ TB) (hd : y.cls ≠ "java/lang/invoke/MethodHandle" ∧ y.cls ≠ "java/lang/invoke/VarHandle" ∧ (parseMethodDescriptor y.desc).map (fun d => d.parameters.length) = some n) (hrc : rm.cells = mc) (hrs : rm.slots = ms) (hR : rm.frames + 1 ≤ R.frames ∧ 8 + (maxL + 11) + rm.locals ≤ R.locals) :
    CallB R s args own index y bytes maxL ret (wT y bytes maxL ret) rm mc ms n ∧ (Cond.static y).before args s = true := ⟨callB_of n hT (tb_G hc) rfl hrc hrs (hT _ hi) (hT _ hl) hd hR, hT _ hst⟩
theorem cw_I (hT : ∀ w ∈ TB, w.before args s = true) (hc : Cond.code y bytes maxL none ∈ TB) (hi : Cond.initialized y.cls ∈ TB) (hl : Cond.methodLink own index y ∈ TB) (hin : Cond.instanceMethod y ∈ TB) (hy : y.name = "<init>") (hd : y.cls ≠ "java/lang/invoke/MethodHandle" ∧ y.cls ≠ "java/lang/invoke/VarHandle" ∧ (parseMethodDescriptor y.desc).map (fun d => d.parameters.length) = some n) (hrc : rm.cells = mc) (hrs : rm.slots = ms) (hR : rm.frames + 1 ≤ R.frames ∧ 8 + (maxL + 11) + rm.locals ≤ R.locals) :
    CallB R s args own index y bytes maxL none (wT y bytes maxL none) rm mc ms n ∧ y.name = "<init>" ∧ (Cond.instanceMethod y).before args s = true := ⟨callB_of n hT (tb_G hc) rfl hrc hrs (hT _ hi) (hT _ hl) hd hR, hy, hT _ hin⟩
theorem cw_IN {host : String} (hT : ∀ w ∈ TB, w.before args s = true) (hK : KK D cZ cI cJ s) (hc : Cond.code y bytes maxL none ∈ TB) (hi : Cond.initialized y.cls ∈ TB) (hl : Cond.methodLinkNest own index y host ∈ nWs) (hin : Cond.instanceMethod y ∈ TB) (hy : y.name = "<init>") (hd : y.cls ≠ "java/lang/invoke/MethodHandle" ∧ y.cls ≠ "java/lang/invoke/VarHandle" ∧ (parseMethodDescriptor y.desc).map (fun d => d.parameters.length) = some n) (hrc : rm.cells = mc) (hrs : rm.slots = ms) (hR : rm.frames + 1 ≤ R.frames ∧ 8 + (maxL + 11) + rm.locals ≤ R.locals) :
    va_CN R s args own index y host bytes maxL none (wT y bytes maxL none) rm mc ms n ∧ y.name = "<init>" ∧ (Cond.instanceMethod y).before args s = true := ⟨va_cnB n hT (tb_G hc) rfl hrc hrs (hK.2 _ hl) (hT _ hi) hd hR, hy, hT _ hin⟩
/-! what a call is begun with -/
theorem blind_B (av : List Value) (sz : Nat) : FrameBlind (va_Pc av (PB D cZ cI cJ sz wc)) := fun a U g mk q => ⟨q.1, q.2.1, q.2.2.1, KK.same (s := U) (U := U.calling g mk a) rfl q.2.2.2.1, q.2.2.2.2⟩
theorem blind_R (av : List Value) : FrameBlind (va_Pc av (PR D cZ cI cJ wc)) := fun a U g mk q => ⟨q.1, q.2.1, KK.same (s := U) (U := U.calling g mk a) rfl q.2.2⟩
theorem pre_S (hK : KK D cZ cI cJ s) (hP : va_P D vwCl ws H) (hD : va_D A ws) (isC : List Nat) (hC : isC.map (fun i => ws[i]?) = wc.map some) (hn : va_nd isC = true) : PreS s H (va_Pc As (PB D cZ cI cJ H.size wc)) As :=
  ⟨blind_B _ _, fun U hU hW => ⟨rfl, by rw [hU], by rw [hU]; exact hP.sub isC (fm_of hC), KK.warm hW hK, (hD.sub isC hn hC).weaken (fun _ _ _ _ => trivial)⟩⟩
theorem pre_V {q0 ci : Nat} {fs : List Value} {T : u_T} {N : Nat} (hK : KK D cZ cI cJ s) (hP : va_P D vwCl ws H) (hD : va_D A ws) (isC : List Nat) (hC : isC.map (fun i => ws[i]?) = wc.map some) (hn : va_nd isC = true) (hr : ws[q0]? = some (b, .inr (ci, fs))) (hc : vwCl[ci]? = some (C, T, N)) : PreV s H C b (va_Pc (.ref b :: As) (PB D cZ cI cJ H.size wc)) As :=
  ⟨blind_B _ _, va_recv hK.1 hP (q := (C, T, N)) hc hr, fun U hU hW => ⟨rfl, by rw [hU], by rw [hU]; exact hP.sub isC (fm_of hC), KK.warm hW hK, (hD.sub isC hn hC).weaken (fun _ _ _ _ => trivial)⟩⟩
theorem prr_S (hK : KK D cZ cI cJ s) (hP : va_P D vwCl ws H) (isC : List Nat) (hC : isC.map (fun i => ws[i]?) = wc.map some) : PreS s H (va_Pc As (PR D cZ cI cJ wc)) As :=
  ⟨blind_R _, fun U hU hW => ⟨rfl, by rw [hU]; exact hP.sub isC (fm_of hC), KK.warm hW hK⟩⟩
theorem prr_V {q0 ci : Nat} {fs : List Value} {T : u_T} {N : Nat} (hK : KK D cZ cI cJ s) (hP : va_P D vwCl ws H) (isC : List Nat) (hC : isC.map (fun i => ws[i]?) = wc.map some) (hr : ws[q0]? = some (b, .inr (ci, fs))) (hc : vwCl[ci]? = some (C, T, N)) : PreV s H C b (va_Pc (.ref b :: As) (PR D cZ cI cJ wc)) As :=
  ⟨blind_R _, va_recv hK.1 hP (q := (C, T, N)) hc hr, fun U hU hW => ⟨rfl, by rw [hU]; exact hP.sub isC (fm_of hC), KK.warm hW hK⟩⟩
/-! behind a call -/
theorem fin_v {post : S → Prop} {wo : S → va_W} {a : Array Value} (hr : va_Run p l e R s m args below meth c H locs cells slots mc ms (F0 m pc ls st0) rest (va_Qv post (WB D (va_A wc H.size) wo) (va_A wc H.size) a) (va_A wc H.size)) (hP : va_P D vwCl ws H) (hD : va_D A ws) (hS : va_S A s.heap H locs) (hA : ∀ q, s.heap.size ≤ q → A q)
    (isC isR : List Nat) (hC : isC.map (fun i => ws[i]?) = wc.map some) (hR : isR.map (fun i => ws[i]?) = wr.map some) (hn : va_nd isR = true) (hdis : ∀ i ∈ isR, i ∉ isC)
    (kk : ∀ (u : S) (H1 : Heap) (locs1 : List Loc), post u → va_P D vwCl (wr ++ wo u) H1 → va_D A (wr ++ wo u) → va_S A s.heap H1 locs1 → W p l e R s m args below meth c H1 locs1 (cells + mc) (slots + ms) Q (F0 m (pc + 3) ls rest)) : W p l e R s m args below meth c H locs cells slots Q (F0 m pc ls st0) := by
  have hF := va_free (wc := wc) hD hS hA isC hC
  refine va_callv hr hS (fun q _ h => hF q h) hF (fun u t H1 locs1 ht _ hu hB _ hk hS1 => ?_)
  obtain ⟨hP1, hD1⟩ := hB
  rw [ht] at hP1
  obtain ⟨hP2, hD2⟩ := va_join hP hD isC isR hC hR hn hdis hk hF hP1 hD1
  exact kk u H1 locs1 hu hP2 hD2 hS1
theorem fin_i {post : Int32 → S → Prop} {wo : S → va_W} {a : Array Value} (hr : va_Run p l e R s m args below meth c H locs cells slots mc ms (F0 m pc ls st0) rest (va_Qi post (WB D (va_A wc H.size) wo) (va_A wc H.size) a) (va_A wc H.size)) (hP : va_P D vwCl ws H) (hD : va_D A ws) (hS : va_S A s.heap H locs) (hA : ∀ q, s.heap.size ≤ q → A q)
    (isC isR : List Nat) (hC : isC.map (fun i => ws[i]?) = wc.map some) (hR : isR.map (fun i => ws[i]?) = wr.map some) (hn : va_nd isR = true) (hdis : ∀ i ∈ isR, i ∉ isC)
    (kk : ∀ (r : Int32) (u : S) (H1 : Heap) (locs1 : List Loc), post r u → va_P D vwCl (wr ++ wo u) H1 → va_D A (wr ++ wo u) → va_S A s.heap H1 locs1 → W p l e R s m args below meth c H1 locs1 (cells + mc) (slots + ms) Q (F0 m (pc + 3) ls (.int r :: rest))) : W p l e R s m args below meth c H locs cells slots Q (F0 m pc ls st0) := by
  have hF := va_free (wc := wc) hD hS hA isC hC
  refine va_calli hr hS (fun q _ h => hF q h) hF (fun r u t H1 locs1 ht _ hu hB _ hk hS1 => ?_)
  obtain ⟨hP1, hD1⟩ := hB
  rw [ht] at hP1
  obtain ⟨hP2, hD2⟩ := va_join hP hD isC isR hC hR hn hdis hk hF hP1 hD1
  exact kk r u H1 locs1 hu hP2 hD2 hS1
theorem fin_l {post : Int64 → S → Prop} {wo : S → va_W} {a : Array Value} (hr : va_Run p l e R s m args below meth c H locs cells slots mc ms (F0 m pc ls st0) rest (va_Ql post (WB D (va_A wc H.size) wo) (va_A wc H.size) a) (va_A wc H.size)) (hP : va_P D vwCl ws H) (hD : va_D A ws) (hS : va_S A s.heap H locs) (hA : ∀ q, s.heap.size ≤ q → A q)
    (isC isR : List Nat) (hC : isC.map (fun i => ws[i]?) = wc.map some) (hR : isR.map (fun i => ws[i]?) = wr.map some) (hn : va_nd isR = true) (hdis : ∀ i ∈ isR, i ∉ isC)
    (kk : ∀ (r : Int64) (u : S) (H1 : Heap) (locs1 : List Loc), post r u → va_P D vwCl (wr ++ wo u) H1 → va_D A (wr ++ wo u) → va_S A s.heap H1 locs1 → W p l e R s m args below meth c H1 locs1 (cells + mc) (slots + ms) Q (F0 m (pc + 3) ls (.long r :: rest))) : W p l e R s m args below meth c H locs cells slots Q (F0 m pc ls st0) := by
  have hF := va_free (wc := wc) hD hS hA isC hC
  refine va_calll hr hS (fun q _ h => hF q h) hF (fun r u t H1 locs1 ht _ hu hB _ hk hS1 => ?_)
  obtain ⟨hP1, hD1⟩ := hB
  rw [ht] at hP1
  obtain ⟨hP2, hD2⟩ := va_join hP hD isC isR hC hR hn hdis hk hF hP1 hD1
  exact kk r u H1 locs1 hu hP2 hD2 hS1
end BASE2
def RetV (p : Program) (l : Launch) (e : Env) (rm : Room) (s : State) (m : MethodId) (args : Array Value) (below : List Frame) (meth : Method) (c : Code) (D : va_G) (A : Nat → Prop) (cc : ByteArray) (Q : State → Prop) {S : Type} (post : S → Prop) (wo : S → va_W) : Prop :=
  ∀ {H : Heap} {locs : List Loc} {cells slots pc : Nat} {ls : Array Slot} {we : va_W}, va_P D vwCl we H → va_D A we → va_S A s.heap H locs → ∀ (u : S), post u → ∀ (is : List Nat), is.map (fun i => we[i]?) = (wo u).map some → va_nd is = true → decode cc pc = .ok (.return_, 1) → cells ≤ rm.cells → slots ≤ rm.slots → W p l e rm s m args below meth c H locs cells slots Q (F0 m pc ls [])
def RetI (p : Program) (l : Launch) (e : Env) (rm : Room) (s : State) (m : MethodId) (args : Array Value) (below : List Frame) (meth : Method) (c : Code) (D : va_G) (A : Nat → Prop) (cc : ByteArray) (ty : FieldType) (Q : State → Prop) {S : Type} (post : Int32 → S → Prop) (wo : S → va_W) : Prop :=
  ∀ {H : Heap} {locs : List Loc} {cells slots pc : Nat} {ls : Array Slot} {we : va_W} {v : Int32}, va_P D vwCl we H → va_D A we → va_S A s.heap H locs → narrow ty (.int v) = .int v → ∀ (u : S), post v u → ∀ (is : List Nat), is.map (fun i => we[i]?) = (wo u).map some → va_nd is = true → decode cc pc = .ok (.ireturn, 1) → cells ≤ rm.cells → slots ≤ rm.slots → W p l e rm s m args below meth c H locs cells slots Q (F0 m pc ls [.int v])
def RetL (p : Program) (l : Launch) (e : Env) (rm : Room) (s : State) (m : MethodId) (args : Array Value) (below : List Frame) (meth : Method) (c : Code) (D : va_G) (A : Nat → Prop) (cc : ByteArray) (Q : State → Prop) {S : Type} (post : Int64 → S → Prop) (wo : S → va_W) : Prop :=
  ∀ {H : Heap} {locs : List Loc} {cells slots pc : Nat} {ls : Array Slot} {we : va_W} {v : Int64}, va_P D vwCl we H → va_D A we → va_S A s.heap H locs → ∀ (u : S), post v u → ∀ (is : List Nat), is.map (fun i => we[i]?) = (wo u).map some → va_nd is = true → decode cc pc = .ok (.lreturn, 1) → cells ≤ rm.cells → slots ≤ rm.slots → W p l e rm s m args below meth c H locs cells slots Q (F0 m pc ls [.long v])
def RtrI (p : Program) (l : Launch) (e : Env) (rm : Room) (s : State) (m : MethodId) (args : Array Value) (below : List Frame) (meth : Method) (c : Code) (cc : ByteArray) (ty : FieldType) (Q : State → Prop) (post : Int32 → Prop) : Prop :=
  ∀ {pc : Nat} {ls : Array Slot} {v : Int32}, narrow ty (.int v) = .int v → post v → decode cc pc = .ok (.ireturn, 1) → W p l e rm s m args below meth c s.heap [] 0 0 Q (F0 m pc ls [.int v])
def RtrL (p : Program) (l : Launch) (e : Env) (rm : Room) (s : State) (m : MethodId) (args : Array Value) (below : List Frame) (meth : Method) (c : Code) (cc : ByteArray) (Q : State → Prop) (post : Int64 → Prop) : Prop :=
  ∀ {pc : Nat} {ls : Array Slot} {v : Int64}, post v → decode cc pc = .ok (.lreturn, 1) → W p l e rm s m args below meth c s.heap [] 0 0 Q (F0 m pc ls [.long v])
section BASE3
variable {l : Launch} {D : va_G} {cZ cI cJ : ClassId} {y : MethodName} {cc : ByteArray} {maxL : Nat} {ret : Option FieldType} {rm : Room} {av : List Value} {ws : va_W} {S : Type}
theorem Cv.of {post : S → Prop} {wo : S → va_W} (hy : plainName y.cls = true)
    (body : ∀ p e s m args below meth c A Q, St p s m meth c D cZ cI cJ y cc maxL none args → RetV p l e rm s m args below meth c D A cc Q post wo → va_P D vwCl ws s.heap → va_D A ws → (∀ q : Nat, s.heap.size ≤ q → A q) → W p l e rm s m args below meth c s.heap [] 0 0 Q (entryFrame m av.toArray maxL)) : Cv l D cZ cI cJ y cc maxL rm av ws post wo := by
  intro sz
  refine Met.ofW (cc := cc) (maxL := maxL) (ret := none) hy rfl ?_
  intro p e s m args below meth c s₁ B hml hv
  obtain ⟨rfl, rfl, hP, hK, hD0⟩ := hv
  exact body p e s m _ below meth c _ _ (st_of B hml hK) (fun hP hD hS u hu is hs hn hdg h1 h2 => rt_v B.exec B.bytes B.returns B.notSynchronized hP hD hS u hu is hs hn hdg h1 h2) hP (hD0.self) (fun q h => Or.inr h)
theorem Ci.of {post : Int32 → S → Prop} {wo : S → va_W} {ty : FieldType} (hy : plainName y.cls = true)
    (body : ∀ p e s m args below meth c A Q, St p s m meth c D cZ cI cJ y cc maxL (some ty) args → RetI p l e rm s m args below meth c D A cc ty Q post wo → va_P D vwCl ws s.heap → va_D A ws → (∀ q : Nat, s.heap.size ≤ q → A q) → W p l e rm s m args below meth c s.heap [] 0 0 Q (entryFrame m av.toArray maxL)) : Ci l D cZ cI cJ y cc maxL (some ty) rm av ws post wo := by
  intro sz
  refine Met.ofW (cc := cc) (maxL := maxL) (ret := some ty) hy rfl ?_
  intro p e s m args below meth c s₁ B hml hv
  obtain ⟨rfl, rfl, hP, hK, hD0⟩ := hv
  exact body p e s m _ below meth c _ _ (st_of B hml hK) (fun hP hD hS hv u hu is hs hn hdg h1 h2 => rt_z B.exec B.bytes B.returns hv B.notSynchronized hP hD hS u hu is hs hn hdg h1 h2) hP (hD0.self) (fun q h => Or.inr h)
theorem Cl.of {post : Int64 → S → Prop} {wo : S → va_W} (hy : plainName y.cls = true)
    (body : ∀ p e s m args below meth c A Q, St p s m meth c D cZ cI cJ y cc maxL (some .long) args → RetL p l e rm s m args below meth c D A cc Q post wo → va_P D vwCl ws s.heap → va_D A ws → (∀ q : Nat, s.heap.size ≤ q → A q) → W p l e rm s m args below meth c s.heap [] 0 0 Q (entryFrame m av.toArray maxL)) : Cl l D cZ cI cJ y cc maxL (some .long) rm av ws post wo := by
  intro sz
  refine Met.ofW (cc := cc) (maxL := maxL) (ret := some .long) hy rfl ?_
  intro p e s m args below meth c s₁ B hml hv
  obtain ⟨rfl, rfl, hP, hK, hD0⟩ := hv
  exact body p e s m _ below meth c _ _ (st_of B hml hK) (fun hP hD hS u hu is hs hn hdg h1 h2 => rt_l B.exec B.bytes B.returns B.notSynchronized hP hD hS u hu is hs hn hdg h1 h2) hP (hD0.self) (fun q h => Or.inr h)
theorem Ri.of {post : Int32 → Prop} {ty : FieldType} (hy : plainName y.cls = true)
    (body : ∀ p e s m args below meth c Q, St p s m meth c D cZ cI cJ y cc maxL (some ty) args → RtrI p l e rm s m args below meth c cc ty Q post → va_P D vwCl ws s.heap → W p l e rm s m args below meth c s.heap [] 0 0 Q (entryFrame m av.toArray maxL)) : Ri l D cZ cI cJ y cc maxL (some ty) rm av ws post := by
  refine Met.ofW (cc := cc) (maxL := maxL) (ret := some ty) hy rfl ?_
  intro p e s m args below meth c s₁ B hml hv
  obtain ⟨rfl, hP, hK⟩ := hv
  exact body p e s m _ below meth c _ (st_of B hml hK) (fun hv hu hdg => rr_z B.exec B.bytes B.returns hv B.notSynchronized hu hdg) hP
theorem Rl.of {post : Int64 → Prop} (hy : plainName y.cls = true)
    (body : ∀ p e s m args below meth c Q, St p s m meth c D cZ cI cJ y cc maxL (some .long) args → RtrL p l e rm s m args below meth c cc Q post → va_P D vwCl ws s.heap → W p l e rm s m args below meth c s.heap [] 0 0 Q (entryFrame m av.toArray maxL)) : Rl l D cZ cI cJ y cc maxL (some .long) rm av ws post := by
  refine Met.ofW (cc := cc) (maxL := maxL) (ret := some .long) hy rfl ?_
  intro p e s m args below meth c s₁ B hml hv
  obtain ⟨rfl, hP, hK⟩ := hv
  exact body p e s m _ below meth c _ (st_of B hml hK) (fun hu hdg => rr_l B.exec B.bytes B.returns B.notSynchronized hu hdg) hP
end BASE3
end
section
theorem dX2_init_0 : decode cX2_init 0 = .ok (.aload_n 0, 1) := by decide +kernel
theorem dX2_init_1 : decode cX2_init 1 = .ok (.invokespecial 3, 3) := by decide +kernel
theorem dX2_init_4 : decode cX2_init 4 = .ok (.return_, 1) := by decide +kernel
theorem dX2_put_0 : decode cX2_put 0 = .ok (.aload_n 0, 1) := by decide +kernel
theorem dX2_put_1 : decode cX2_put 1 = .ok (.lload_n 1, 1) := by decide +kernel
theorem dX2_put_2 : decode cX2_put 2 = .ok (.putfield 9, 3) := by decide +kernel
theorem dX2_put_5 : decode cX2_put 5 = .ok (.aload_n 0, 1) := by decide +kernel
theorem dX2_put_6 : decode cX2_put 6 = .ok (.lload_n 1, 1) := by decide +kernel
theorem dX2_put_7 : decode cX2_put 7 = .ok (.lconst 0, 1) := by decide +kernel
theorem dX2_put_8 : decode cX2_put 8 = .ok (.lcmp, 1) := by decide +kernel
theorem dX2_put_9 : decode cX2_put 9 = .ok (.ifCond .ge 9, 3) := by decide +kernel
theorem dX2_put_12 : decode cX2_put 12 = .ok (.ldc2_w 15, 3) := by decide +kernel
theorem dX2_put_15 : decode cX2_put 15 = .ok (.goto 4, 3) := by decide +kernel
theorem dX2_put_18 : decode cX2_put 18 = .ok (.lconst 0, 1) := by decide +kernel
theorem dX2_put_19 : decode cX2_put 19 = .ok (.putfield 17, 3) := by decide +kernel
theorem dX2_put_22 : decode cX2_put 22 = .ok (.return_, 1) := by decide +kernel
theorem dX2_copy_0 : decode cX2_copy 0 = .ok (.aload_n 0, 1) := by decide +kernel
theorem dX2_copy_1 : decode cX2_copy 1 = .ok (.aload_n 1, 1) := by decide +kernel
theorem dX2_copy_2 : decode cX2_copy 2 = .ok (.getfield 9, 3) := by decide +kernel
theorem dX2_copy_5 : decode cX2_copy 5 = .ok (.putfield 9, 3) := by decide +kernel
theorem dX2_copy_8 : decode cX2_copy 8 = .ok (.aload_n 0, 1) := by decide +kernel
theorem dX2_copy_9 : decode cX2_copy 9 = .ok (.aload_n 1, 1) := by decide +kernel
theorem dX2_copy_10 : decode cX2_copy 10 = .ok (.getfield 17, 3) := by decide +kernel
theorem dX2_copy_13 : decode cX2_copy 13 = .ok (.putfield 17, 3) := by decide +kernel
theorem dX2_copy_16 : decode cX2_copy 16 = .ok (.return_, 1) := by decide +kernel
theorem dX2_copyAmount_0 : decode cX2_copyAmount 0 = .ok (.aload_n 0, 1) := by decide +kernel
theorem dX2_copyAmount_1 : decode cX2_copyAmount 1 = .ok (.aload_n 1, 1) := by decide +kernel
theorem dX2_copyAmount_2 : decode cX2_copyAmount 2 = .ok (.invokevirtual 20, 3) := by decide +kernel
theorem dX2_copyAmount_5 : decode cX2_copyAmount 5 = .ok (.aload_n 0, 1) := by decide +kernel
theorem dX2_copyAmount_6 : decode cX2_copyAmount 6 = .ok (.getfield 17, 3) := by decide +kernel
theorem dX2_copyAmount_9 : decode cX2_copyAmount 9 = .ok (.lconst 0, 1) := by decide +kernel
theorem dX2_copyAmount_10 : decode cX2_copyAmount 10 = .ok (.lcmp, 1) := by decide +kernel
theorem dX2_copyAmount_11 : decode cX2_copyAmount 11 = .ok (.ifCond .ge 7, 3) := by decide +kernel
theorem dX2_copyAmount_14 : decode cX2_copyAmount 14 = .ok (.aload_n 0, 1) := by decide +kernel
theorem dX2_copyAmount_15 : decode cX2_copyAmount 15 = .ok (.invokevirtual 24, 3) := by decide +kernel
theorem dX2_copyAmount_18 : decode cX2_copyAmount 18 = .ok (.return_, 1) := by decide +kernel
theorem dX2_sign_0 : decode cX2_sign 0 = .ok (.aload_n 0, 1) := by decide +kernel
theorem dX2_sign_1 : decode cX2_sign 1 = .ok (.getfield 17, 3) := by decide +kernel
theorem dX2_sign_4 : decode cX2_sign 4 = .ok (.lconst 0, 1) := by decide +kernel
theorem dX2_sign_5 : decode cX2_sign 5 = .ok (.lcmp, 1) := by decide +kernel
theorem dX2_sign_6 : decode cX2_sign 6 = .ok (.ifCond .eq 18, 3) := by decide +kernel
theorem dX2_sign_9 : decode cX2_sign 9 = .ok (.aload_n 0, 1) := by decide +kernel
theorem dX2_sign_10 : decode cX2_sign 10 = .ok (.getfield 17, 3) := by decide +kernel
theorem dX2_sign_13 : decode cX2_sign 13 = .ok (.lconst 0, 1) := by decide +kernel
theorem dX2_sign_14 : decode cX2_sign 14 = .ok (.lcmp, 1) := by decide +kernel
theorem dX2_sign_15 : decode cX2_sign 15 = .ok (.ifCond .ge 7, 3) := by decide +kernel
theorem dX2_sign_18 : decode cX2_sign 18 = .ok (.iconst (-1), 1) := by decide +kernel
theorem dX2_sign_19 : decode cX2_sign 19 = .ok (.goto 4, 3) := by decide +kernel
theorem dX2_sign_22 : decode cX2_sign 22 = .ok (.iconst 1, 1) := by decide +kernel
theorem dX2_sign_23 : decode cX2_sign 23 = .ok (.ireturn, 1) := by decide +kernel
theorem dX2_sign_24 : decode cX2_sign 24 = .ok (.aload_n 0, 1) := by decide +kernel
theorem dX2_sign_25 : decode cX2_sign 25 = .ok (.getfield 9, 3) := by decide +kernel
theorem dX2_sign_28 : decode cX2_sign 28 = .ok (.lconst 0, 1) := by decide +kernel
theorem dX2_sign_29 : decode cX2_sign 29 = .ok (.lcmp, 1) := by decide +kernel
theorem dX2_sign_30 : decode cX2_sign 30 = .ok (.ifCond .ne 7, 3) := by decide +kernel
theorem dX2_sign_33 : decode cX2_sign 33 = .ok (.iconst 0, 1) := by decide +kernel
theorem dX2_sign_34 : decode cX2_sign 34 = .ok (.goto 4, 3) := by decide +kernel
theorem dX2_sign_37 : decode cX2_sign 37 = .ok (.iconst 1, 1) := by decide +kernel
theorem dX2_sign_38 : decode cX2_sign 38 = .ok (.ireturn, 1) := by decide +kernel
theorem dX2_isOdd_0 : decode cX2_isOdd 0 = .ok (.aload_n 0, 1) := by decide +kernel
theorem dX2_isOdd_1 : decode cX2_isOdd 1 = .ok (.getfield 9, 3) := by decide +kernel
theorem dX2_isOdd_4 : decode cX2_isOdd 4 = .ok (.lconst 1, 1) := by decide +kernel
theorem dX2_isOdd_5 : decode cX2_isOdd 5 = .ok (.land, 1) := by decide +kernel
theorem dX2_isOdd_6 : decode cX2_isOdd 6 = .ok (.lconst 0, 1) := by decide +kernel
theorem dX2_isOdd_7 : decode cX2_isOdd 7 = .ok (.lcmp, 1) := by decide +kernel
theorem dX2_isOdd_8 : decode cX2_isOdd 8 = .ok (.ifCond .eq 7, 3) := by decide +kernel
theorem dX2_isOdd_11 : decode cX2_isOdd 11 = .ok (.iconst 1, 1) := by decide +kernel
theorem dX2_isOdd_12 : decode cX2_isOdd 12 = .ok (.goto 4, 3) := by decide +kernel
theorem dX2_isOdd_15 : decode cX2_isOdd 15 = .ok (.iconst 0, 1) := by decide +kernel
theorem dX2_isOdd_16 : decode cX2_isOdd 16 = .ok (.ireturn, 1) := by decide +kernel
theorem dX2_isOne_0 : decode cX2_isOne 0 = .ok (.aload_n 0, 1) := by decide +kernel
theorem dX2_isOne_1 : decode cX2_isOne 1 = .ok (.getfield 17, 3) := by decide +kernel
theorem dX2_isOne_4 : decode cX2_isOne 4 = .ok (.lconst 0, 1) := by decide +kernel
theorem dX2_isOne_5 : decode cX2_isOne 5 = .ok (.lcmp, 1) := by decide +kernel
theorem dX2_isOne_6 : decode cX2_isOne 6 = .ok (.ifCond .ne 16, 3) := by decide +kernel
theorem dX2_isOne_9 : decode cX2_isOne 9 = .ok (.aload_n 0, 1) := by decide +kernel
theorem dX2_isOne_10 : decode cX2_isOne 10 = .ok (.getfield 9, 3) := by decide +kernel
theorem dX2_isOne_13 : decode cX2_isOne 13 = .ok (.lconst 1, 1) := by decide +kernel
theorem dX2_isOne_14 : decode cX2_isOne 14 = .ok (.lcmp, 1) := by decide +kernel
theorem dX2_isOne_15 : decode cX2_isOne 15 = .ok (.ifCond .ne 7, 3) := by decide +kernel
theorem dX2_isOne_18 : decode cX2_isOne 18 = .ok (.iconst 1, 1) := by decide +kernel
theorem dX2_isOne_19 : decode cX2_isOne 19 = .ok (.goto 4, 3) := by decide +kernel
theorem dX2_isOne_22 : decode cX2_isOne 22 = .ok (.iconst 0, 1) := by decide +kernel
theorem dX2_isOne_23 : decode cX2_isOne 23 = .ok (.ireturn, 1) := by decide +kernel
theorem dX2_compare_0 : decode cX2_compare 0 = .ok (.aload_n 0, 1) := by decide +kernel
theorem dX2_compare_1 : decode cX2_compare 1 = .ok (.getfield 17, 3) := by decide +kernel
theorem dX2_compare_4 : decode cX2_compare 4 = .ok (.aload_n 1, 1) := by decide +kernel
theorem dX2_compare_5 : decode cX2_compare 5 = .ok (.getfield 17, 3) := by decide +kernel
theorem dX2_compare_8 : decode cX2_compare 8 = .ok (.lcmp, 1) := by decide +kernel
theorem dX2_compare_9 : decode cX2_compare 9 = .ok (.ifCond .eq 21, 3) := by decide +kernel
theorem dX2_compare_12 : decode cX2_compare 12 = .ok (.aload_n 0, 1) := by decide +kernel
theorem dX2_compare_13 : decode cX2_compare 13 = .ok (.getfield 17, 3) := by decide +kernel
theorem dX2_compare_16 : decode cX2_compare 16 = .ok (.aload_n 1, 1) := by decide +kernel
theorem dX2_compare_17 : decode cX2_compare 17 = .ok (.getfield 17, 3) := by decide +kernel
theorem dX2_compare_20 : decode cX2_compare 20 = .ok (.lcmp, 1) := by decide +kernel
theorem dX2_compare_21 : decode cX2_compare 21 = .ok (.ifCond .ge 7, 3) := by decide +kernel
theorem dX2_compare_24 : decode cX2_compare 24 = .ok (.iconst (-1), 1) := by decide +kernel
theorem dX2_compare_25 : decode cX2_compare 25 = .ok (.goto 4, 3) := by decide +kernel
theorem dX2_compare_28 : decode cX2_compare 28 = .ok (.iconst 1, 1) := by decide +kernel
theorem dX2_compare_29 : decode cX2_compare 29 = .ok (.ireturn, 1) := by decide +kernel
theorem dX2_compare_30 : decode cX2_compare 30 = .ok (.aload_n 0, 1) := by decide +kernel
theorem dX2_compare_31 : decode cX2_compare 31 = .ok (.getfield 9, 3) := by decide +kernel
theorem dX2_compare_34 : decode cX2_compare 34 = .ok (.aload_n 1, 1) := by decide +kernel
theorem dX2_compare_35 : decode cX2_compare 35 = .ok (.getfield 9, 3) := by decide +kernel
theorem dX2_compare_38 : decode cX2_compare 38 = .ok (.lcmp, 1) := by decide +kernel
theorem dX2_compare_39 : decode cX2_compare 39 = .ok (.ifCond .ne 5, 3) := by decide +kernel
theorem dX2_compare_42 : decode cX2_compare 42 = .ok (.iconst 0, 1) := by decide +kernel
theorem dX2_compare_43 : decode cX2_compare 43 = .ok (.ireturn, 1) := by decide +kernel
theorem dX2_compare_44 : decode cX2_compare 44 = .ok (.aload_n 0, 1) := by decide +kernel
theorem dX2_compare_45 : decode cX2_compare 45 = .ok (.getfield 9, 3) := by decide +kernel
theorem dX2_compare_48 : decode cX2_compare 48 = .ok (.aload_n 1, 1) := by decide +kernel
theorem dX2_compare_49 : decode cX2_compare 49 = .ok (.getfield 9, 3) := by decide +kernel
theorem dX2_compare_52 : decode cX2_compare 52 = .ok (.invokestatic 27, 3) := by decide +kernel
theorem dX2_compare_55 : decode cX2_compare 55 = .ok (.ifCond .eq 7, 3) := by decide +kernel
theorem dX2_compare_58 : decode cX2_compare 58 = .ok (.iconst (-1), 1) := by decide +kernel
theorem dX2_compare_59 : decode cX2_compare 59 = .ok (.goto 4, 3) := by decide +kernel
theorem dX2_compare_62 : decode cX2_compare 62 = .ok (.iconst 1, 1) := by decide +kernel
theorem dX2_compare_63 : decode cX2_compare 63 = .ok (.ireturn, 1) := by decide +kernel
theorem dX2_negate_0 : decode cX2_negate 0 = .ok (.aload_n 0, 1) := by decide +kernel
theorem dX2_negate_1 : decode cX2_negate 1 = .ok (.aload_n 0, 1) := by decide +kernel
theorem dX2_negate_2 : decode cX2_negate 2 = .ok (.getfield 9, 3) := by decide +kernel
theorem dX2_negate_5 : decode cX2_negate 5 = .ok (.lneg, 1) := by decide +kernel
theorem dX2_negate_6 : decode cX2_negate 6 = .ok (.putfield 9, 3) := by decide +kernel
theorem dX2_negate_9 : decode cX2_negate 9 = .ok (.aload_n 0, 1) := by decide +kernel
theorem dX2_negate_10 : decode cX2_negate 10 = .ok (.aload_n 0, 1) := by decide +kernel
theorem dX2_negate_11 : decode cX2_negate 11 = .ok (.getfield 9, 3) := by decide +kernel
theorem dX2_negate_14 : decode cX2_negate 14 = .ok (.lconst 0, 1) := by decide +kernel
theorem dX2_negate_15 : decode cX2_negate 15 = .ok (.lcmp, 1) := by decide +kernel
theorem dX2_negate_16 : decode cX2_negate 16 = .ok (.ifCond .ne 11, 3) := by decide +kernel
theorem dX2_negate_19 : decode cX2_negate 19 = .ok (.aload_n 0, 1) := by decide +kernel
theorem dX2_negate_20 : decode cX2_negate 20 = .ok (.getfield 17, 3) := by decide +kernel
theorem dX2_negate_23 : decode cX2_negate 23 = .ok (.lneg, 1) := by decide +kernel
theorem dX2_negate_24 : decode cX2_negate 24 = .ok (.goto 11, 3) := by decide +kernel
theorem dX2_negate_27 : decode cX2_negate 27 = .ok (.aload_n 0, 1) := by decide +kernel
theorem dX2_negate_28 : decode cX2_negate 28 = .ok (.getfield 17, 3) := by decide +kernel
theorem dX2_negate_31 : decode cX2_negate 31 = .ok (.ldc2_w 15, 3) := by decide +kernel
theorem dX2_negate_34 : decode cX2_negate 34 = .ok (.lxor, 1) := by decide +kernel
theorem dX2_negate_35 : decode cX2_negate 35 = .ok (.putfield 17, 3) := by decide +kernel
theorem dX2_negate_38 : decode cX2_negate 38 = .ok (.return_, 1) := by decide +kernel
theorem dX2_addParts_0 : decode cX2_addParts 0 = .ok (.aload_n 0, 1) := by decide +kernel
theorem dX2_addParts_1 : decode cX2_addParts 1 = .ok (.dup, 1) := by decide +kernel
theorem dX2_addParts_2 : decode cX2_addParts 2 = .ok (.getfield 9, 3) := by decide +kernel
theorem dX2_addParts_5 : decode cX2_addParts 5 = .ok (.lload_n 3, 1) := by decide +kernel
theorem dX2_addParts_6 : decode cX2_addParts 6 = .ok (.ladd, 1) := by decide +kernel
theorem dX2_addParts_7 : decode cX2_addParts 7 = .ok (.putfield 9, 3) := by decide +kernel
theorem dX2_addParts_10 : decode cX2_addParts 10 = .ok (.aload_n 0, 1) := by decide +kernel
theorem dX2_addParts_11 : decode cX2_addParts 11 = .ok (.dup, 1) := by decide +kernel
theorem dX2_addParts_12 : decode cX2_addParts 12 = .ok (.getfield 17, 3) := by decide +kernel
theorem dX2_addParts_15 : decode cX2_addParts 15 = .ok (.lload_n 1, 1) := by decide +kernel
theorem dX2_addParts_16 : decode cX2_addParts 16 = .ok (.ladd, 1) := by decide +kernel
theorem dX2_addParts_17 : decode cX2_addParts 17 = .ok (.putfield 17, 3) := by decide +kernel
theorem dX2_addParts_20 : decode cX2_addParts 20 = .ok (.aload_n 0, 1) := by decide +kernel
theorem dX2_addParts_21 : decode cX2_addParts 21 = .ok (.getfield 9, 3) := by decide +kernel
theorem dX2_addParts_24 : decode cX2_addParts 24 = .ok (.lload_n 3, 1) := by decide +kernel
theorem dX2_addParts_25 : decode cX2_addParts 25 = .ok (.invokestatic 27, 3) := by decide +kernel
theorem dX2_addParts_28 : decode cX2_addParts 28 = .ok (.ifCond .eq 13, 3) := by decide +kernel
theorem dX2_addParts_31 : decode cX2_addParts 31 = .ok (.aload_n 0, 1) := by decide +kernel
theorem dX2_addParts_32 : decode cX2_addParts 32 = .ok (.dup, 1) := by decide +kernel
theorem dX2_addParts_33 : decode cX2_addParts 33 = .ok (.getfield 17, 3) := by decide +kernel
theorem dX2_addParts_36 : decode cX2_addParts 36 = .ok (.lconst 1, 1) := by decide +kernel
theorem dX2_addParts_37 : decode cX2_addParts 37 = .ok (.ladd, 1) := by decide +kernel
theorem dX2_addParts_38 : decode cX2_addParts 38 = .ok (.putfield 17, 3) := by decide +kernel
theorem dX2_addParts_41 : decode cX2_addParts 41 = .ok (.return_, 1) := by decide +kernel
theorem dX2_subtract_0 : decode cX2_subtract 0 = .ok (.aload_n 0, 1) := by decide +kernel
theorem dX2_subtract_1 : decode cX2_subtract 1 = .ok (.getfield 9, 3) := by decide +kernel
theorem dX2_subtract_4 : decode cX2_subtract 4 = .ok (.aload_n 1, 1) := by decide +kernel
theorem dX2_subtract_5 : decode cX2_subtract 5 = .ok (.getfield 9, 3) := by decide +kernel
theorem dX2_subtract_8 : decode cX2_subtract 8 = .ok (.invokestatic 27, 3) := by decide +kernel
theorem dX2_subtract_11 : decode cX2_subtract 11 = .ok (.ifCond .eq 13, 3) := by decide +kernel
theorem dX2_subtract_14 : decode cX2_subtract 14 = .ok (.aload_n 0, 1) := by decide +kernel
theorem dX2_subtract_15 : decode cX2_subtract 15 = .ok (.dup, 1) := by decide +kernel
theorem dX2_subtract_16 : decode cX2_subtract 16 = .ok (.getfield 17, 3) := by decide +kernel
theorem dX2_subtract_19 : decode cX2_subtract 19 = .ok (.lconst 1, 1) := by decide +kernel
theorem dX2_subtract_20 : decode cX2_subtract 20 = .ok (.lsub, 1) := by decide +kernel
theorem dX2_subtract_21 : decode cX2_subtract 21 = .ok (.putfield 17, 3) := by decide +kernel
theorem dX2_subtract_24 : decode cX2_subtract 24 = .ok (.aload_n 0, 1) := by decide +kernel
theorem dX2_subtract_25 : decode cX2_subtract 25 = .ok (.dup, 1) := by decide +kernel
theorem dX2_subtract_26 : decode cX2_subtract 26 = .ok (.getfield 9, 3) := by decide +kernel
theorem dX2_subtract_29 : decode cX2_subtract 29 = .ok (.aload_n 1, 1) := by decide +kernel
theorem dX2_subtract_30 : decode cX2_subtract 30 = .ok (.getfield 9, 3) := by decide +kernel
theorem dX2_subtract_33 : decode cX2_subtract 33 = .ok (.lsub, 1) := by decide +kernel
theorem dX2_subtract_34 : decode cX2_subtract 34 = .ok (.putfield 9, 3) := by decide +kernel
theorem dX2_subtract_37 : decode cX2_subtract 37 = .ok (.aload_n 0, 1) := by decide +kernel
theorem dX2_subtract_38 : decode cX2_subtract 38 = .ok (.dup, 1) := by decide +kernel
theorem dX2_subtract_39 : decode cX2_subtract 39 = .ok (.getfield 17, 3) := by decide +kernel
theorem dX2_subtract_42 : decode cX2_subtract 42 = .ok (.aload_n 1, 1) := by decide +kernel
theorem dX2_subtract_43 : decode cX2_subtract 43 = .ok (.getfield 17, 3) := by decide +kernel
theorem dX2_subtract_46 : decode cX2_subtract 46 = .ok (.lsub, 1) := by decide +kernel
theorem dX2_subtract_47 : decode cX2_subtract 47 = .ok (.putfield 17, 3) := by decide +kernel
theorem dX2_subtract_50 : decode cX2_subtract 50 = .ok (.return_, 1) := by decide +kernel
theorem dX2_addProduct_0 : decode cX2_addProduct 0 = .ok (.aload_n 0, 1) := by decide +kernel
theorem dX2_addProduct_1 : decode cX2_addProduct 1 = .ok (.lload_n 1, 1) := by decide +kernel
theorem dX2_addProduct_2 : decode cX2_addProduct 2 = .ok (.lload_n 3, 1) := by decide +kernel
theorem dX2_addProduct_3 : decode cX2_addProduct 3 = .ok (.invokestatic 31, 3) := by decide +kernel
theorem dX2_addProduct_6 : decode cX2_addProduct 6 = .ok (.lload_n 1, 1) := by decide +kernel
theorem dX2_addProduct_7 : decode cX2_addProduct 7 = .ok (.lload_n 3, 1) := by decide +kernel
theorem dX2_addProduct_8 : decode cX2_addProduct 8 = .ok (.lmul, 1) := by decide +kernel
theorem dX2_addProduct_9 : decode cX2_addProduct 9 = .ok (.invokevirtual 35, 3) := by decide +kernel
theorem dX2_addProduct_12 : decode cX2_addProduct 12 = .ok (.return_, 1) := by decide +kernel
theorem dX2_addSpan_0 : decode cX2_addSpan 0 = .ok (.aload_n 0, 1) := by decide +kernel
theorem dX2_addSpan_1 : decode cX2_addSpan 1 = .ok (.lload_n 1, 1) := by decide +kernel
theorem dX2_addSpan_2 : decode cX2_addSpan 2 = .ok (.lload 7, 2) := by decide +kernel
theorem dX2_addSpan_4 : decode cX2_addSpan 4 = .ok (.invokevirtual 39, 3) := by decide +kernel
theorem dX2_addSpan_7 : decode cX2_addSpan 7 = .ok (.aload_n 0, 1) := by decide +kernel
theorem dX2_addSpan_8 : decode cX2_addSpan 8 = .ok (.lload_n 3, 1) := by decide +kernel
theorem dX2_addSpan_9 : decode cX2_addSpan 9 = .ok (.lneg, 1) := by decide +kernel
theorem dX2_addSpan_10 : decode cX2_addSpan 10 = .ok (.lload 5, 2) := by decide +kernel
theorem dX2_addSpan_12 : decode cX2_addSpan 12 = .ok (.invokevirtual 39, 3) := by decide +kernel
theorem dX2_addSpan_15 : decode cX2_addSpan 15 = .ok (.return_, 1) := by decide +kernel
theorem dX2_putSpan_0 : decode cX2_putSpan 0 = .ok (.aload_n 0, 1) := by decide +kernel
theorem dX2_putSpan_1 : decode cX2_putSpan 1 = .ok (.lconst 0, 1) := by decide +kernel
theorem dX2_putSpan_2 : decode cX2_putSpan 2 = .ok (.invokevirtual 42, 3) := by decide +kernel
theorem dX2_putSpan_5 : decode cX2_putSpan 5 = .ok (.aload_n 0, 1) := by decide +kernel
theorem dX2_putSpan_6 : decode cX2_putSpan 6 = .ok (.lload_n 1, 1) := by decide +kernel
theorem dX2_putSpan_7 : decode cX2_putSpan 7 = .ok (.lload_n 3, 1) := by decide +kernel
theorem dX2_putSpan_8 : decode cX2_putSpan 8 = .ok (.lload 5, 2) := by decide +kernel
theorem dX2_putSpan_10 : decode cX2_putSpan 10 = .ok (.lload 7, 2) := by decide +kernel
theorem dX2_putSpan_12 : decode cX2_putSpan 12 = .ok (.invokevirtual 46, 3) := by decide +kernel
theorem dX2_putSpan_15 : decode cX2_putSpan 15 = .ok (.return_, 1) := by decide +kernel
theorem dX2_addScaled_0 : decode cX2_addScaled 0 = .ok (.aload_n 1, 1) := by decide +kernel
theorem dX2_addScaled_1 : decode cX2_addScaled 1 = .ok (.getfield 9, 3) := by decide +kernel
theorem dX2_addScaled_4 : decode cX2_addScaled 4 = .ok (.lconst 0, 1) := by decide +kernel
theorem dX2_addScaled_5 : decode cX2_addScaled 5 = .ok (.lcmp, 1) := by decide +kernel
theorem dX2_addScaled_6 : decode cX2_addScaled 6 = .ok (.ifCond .ge 7, 3) := by decide +kernel
theorem dX2_addScaled_9 : decode cX2_addScaled 9 = .ok (.lload_n 2, 1) := by decide +kernel
theorem dX2_addScaled_10 : decode cX2_addScaled 10 = .ok (.goto 4, 3) := by decide +kernel
theorem dX2_addScaled_13 : decode cX2_addScaled 13 = .ok (.lconst 0, 1) := by decide +kernel
theorem dX2_addScaled_14 : decode cX2_addScaled 14 = .ok (.lstore 4, 2) := by decide +kernel
theorem dX2_addScaled_16 : decode cX2_addScaled 16 = .ok (.aload_n 1, 1) := by decide +kernel
theorem dX2_addScaled_17 : decode cX2_addScaled 17 = .ok (.getfield 17, 3) := by decide +kernel
theorem dX2_addScaled_20 : decode cX2_addScaled 20 = .ok (.lload_n 2, 1) := by decide +kernel
theorem dX2_addScaled_21 : decode cX2_addScaled 21 = .ok (.lmul, 1) := by decide +kernel
theorem dX2_addScaled_22 : decode cX2_addScaled 22 = .ok (.aload_n 1, 1) := by decide +kernel
theorem dX2_addScaled_23 : decode cX2_addScaled 23 = .ok (.getfield 9, 3) := by decide +kernel
theorem dX2_addScaled_26 : decode cX2_addScaled 26 = .ok (.lload_n 2, 1) := by decide +kernel
theorem dX2_addScaled_27 : decode cX2_addScaled 27 = .ok (.invokestatic 31, 3) := by decide +kernel
theorem dX2_addScaled_30 : decode cX2_addScaled 30 = .ok (.ladd, 1) := by decide +kernel
theorem dX2_addScaled_31 : decode cX2_addScaled 31 = .ok (.lload 4, 2) := by decide +kernel
theorem dX2_addScaled_33 : decode cX2_addScaled 33 = .ok (.ladd, 1) := by decide +kernel
theorem dX2_addScaled_34 : decode cX2_addScaled 34 = .ok (.lstore 6, 2) := by decide +kernel
theorem dX2_addScaled_36 : decode cX2_addScaled 36 = .ok (.aload_n 0, 1) := by decide +kernel
theorem dX2_addScaled_37 : decode cX2_addScaled 37 = .ok (.lload 6, 2) := by decide +kernel
theorem dX2_addScaled_39 : decode cX2_addScaled 39 = .ok (.aload_n 1, 1) := by decide +kernel
theorem dX2_addScaled_40 : decode cX2_addScaled 40 = .ok (.getfield 9, 3) := by decide +kernel
theorem dX2_addScaled_43 : decode cX2_addScaled 43 = .ok (.lload_n 2, 1) := by decide +kernel
theorem dX2_addScaled_44 : decode cX2_addScaled 44 = .ok (.lmul, 1) := by decide +kernel
theorem dX2_addScaled_45 : decode cX2_addScaled 45 = .ok (.invokevirtual 35, 3) := by decide +kernel
theorem dX2_addScaled_48 : decode cX2_addScaled 48 = .ok (.return_, 1) := by decide +kernel
theorem dX2_twice_0 : decode cX2_twice 0 = .ok (.aload_n 0, 1) := by decide +kernel
theorem dX2_twice_1 : decode cX2_twice 1 = .ok (.aload_n 0, 1) := by decide +kernel
theorem dX2_twice_2 : decode cX2_twice 2 = .ok (.getfield 17, 3) := by decide +kernel
theorem dX2_twice_5 : decode cX2_twice 5 = .ok (.iconst 1, 1) := by decide +kernel
theorem dX2_twice_6 : decode cX2_twice 6 = .ok (.lshl, 1) := by decide +kernel
theorem dX2_twice_7 : decode cX2_twice 7 = .ok (.aload_n 0, 1) := by decide +kernel
theorem dX2_twice_8 : decode cX2_twice 8 = .ok (.getfield 9, 3) := by decide +kernel
theorem dX2_twice_11 : decode cX2_twice 11 = .ok (.bipush 63, 2) := by decide +kernel
theorem dX2_twice_13 : decode cX2_twice 13 = .ok (.lushr, 1) := by decide +kernel
theorem dX2_twice_14 : decode cX2_twice 14 = .ok (.lor, 1) := by decide +kernel
theorem dX2_twice_15 : decode cX2_twice 15 = .ok (.putfield 17, 3) := by decide +kernel
theorem dX2_twice_18 : decode cX2_twice 18 = .ok (.aload_n 0, 1) := by decide +kernel
theorem dX2_twice_19 : decode cX2_twice 19 = .ok (.aload_n 0, 1) := by decide +kernel
theorem dX2_twice_20 : decode cX2_twice 20 = .ok (.getfield 9, 3) := by decide +kernel
theorem dX2_twice_23 : decode cX2_twice 23 = .ok (.iconst 1, 1) := by decide +kernel
theorem dX2_twice_24 : decode cX2_twice 24 = .ok (.lshl, 1) := by decide +kernel
theorem dX2_twice_25 : decode cX2_twice 25 = .ok (.putfield 9, 3) := by decide +kernel
theorem dX2_twice_28 : decode cX2_twice 28 = .ok (.return_, 1) := by decide +kernel
theorem dX2_half_0 : decode cX2_half 0 = .ok (.aload_n 0, 1) := by decide +kernel
theorem dX2_half_1 : decode cX2_half 1 = .ok (.aload_n 0, 1) := by decide +kernel
theorem dX2_half_2 : decode cX2_half 2 = .ok (.getfield 9, 3) := by decide +kernel
theorem dX2_half_5 : decode cX2_half 5 = .ok (.iconst 1, 1) := by decide +kernel
theorem dX2_half_6 : decode cX2_half 6 = .ok (.lushr, 1) := by decide +kernel
theorem dX2_half_7 : decode cX2_half 7 = .ok (.aload_n 0, 1) := by decide +kernel
theorem dX2_half_8 : decode cX2_half 8 = .ok (.getfield 17, 3) := by decide +kernel
theorem dX2_half_11 : decode cX2_half 11 = .ok (.bipush 63, 2) := by decide +kernel
theorem dX2_half_13 : decode cX2_half 13 = .ok (.lshl, 1) := by decide +kernel
theorem dX2_half_14 : decode cX2_half 14 = .ok (.lor, 1) := by decide +kernel
theorem dX2_half_15 : decode cX2_half 15 = .ok (.putfield 9, 3) := by decide +kernel
theorem dX2_half_18 : decode cX2_half 18 = .ok (.aload_n 0, 1) := by decide +kernel
theorem dX2_half_19 : decode cX2_half 19 = .ok (.aload_n 0, 1) := by decide +kernel
theorem dX2_half_20 : decode cX2_half 20 = .ok (.getfield 17, 3) := by decide +kernel
theorem dX2_half_23 : decode cX2_half 23 = .ok (.iconst 1, 1) := by decide +kernel
theorem dX2_half_24 : decode cX2_half 24 = .ok (.lshr, 1) := by decide +kernel
theorem dX2_half_25 : decode cX2_half 25 = .ok (.putfield 17, 3) := by decide +kernel
theorem dX2_half_28 : decode cX2_half 28 = .ok (.return_, 1) := by decide +kernel
theorem dX2_setLowestBit_0 : decode cX2_setLowestBit 0 = .ok (.aload_n 0, 1) := by decide +kernel
theorem dX2_setLowestBit_1 : decode cX2_setLowestBit 1 = .ok (.aload_n 0, 1) := by decide +kernel
theorem dX2_setLowestBit_2 : decode cX2_setLowestBit 2 = .ok (.getfield 9, 3) := by decide +kernel
theorem dX2_setLowestBit_5 : decode cX2_setLowestBit 5 = .ok (.lconst 1, 1) := by decide +kernel
theorem dX2_setLowestBit_6 : decode cX2_setLowestBit 6 = .ok (.lor, 1) := by decide +kernel
theorem dX2_setLowestBit_7 : decode cX2_setLowestBit 7 = .ok (.putfield 9, 3) := by decide +kernel
theorem dX2_setLowestBit_10 : decode cX2_setLowestBit 10 = .ok (.return_, 1) := by decide +kernel
theorem dX2_limbs_0 : decode cX2_limbs 0 = .ok (.aload_n 0, 1) := by decide +kernel
theorem dX2_limbs_1 : decode cX2_limbs 1 = .ok (.invokevirtual 50, 3) := by decide +kernel
theorem dX2_limbs_4 : decode cX2_limbs 4 = .ok (.lstore_n 1, 1) := by decide +kernel
theorem dX2_limbs_5 : decode cX2_limbs 5 = .ok (.lload_n 1, 1) := by decide +kernel
theorem dX2_limbs_6 : decode cX2_limbs 6 = .ok (.lconst 0, 1) := by decide +kernel
theorem dX2_limbs_7 : decode cX2_limbs 7 = .ok (.lcmp, 1) := by decide +kernel
theorem dX2_limbs_8 : decode cX2_limbs 8 = .ok (.ifCond .eq 18, 3) := by decide +kernel
theorem dX2_limbs_11 : decode cX2_limbs 11 = .ok (.lload_n 1, 1) := by decide +kernel
theorem dX2_limbs_12 : decode cX2_limbs 12 = .ok (.bipush 32, 2) := by decide +kernel
theorem dX2_limbs_14 : decode cX2_limbs 14 = .ok (.lushr, 1) := by decide +kernel
theorem dX2_limbs_15 : decode cX2_limbs 15 = .ok (.lconst 0, 1) := by decide +kernel
theorem dX2_limbs_16 : decode cX2_limbs 16 = .ok (.lcmp, 1) := by decide +kernel
theorem dX2_limbs_17 : decode cX2_limbs 17 = .ok (.ifCond .eq 7, 3) := by decide +kernel
theorem dX2_limbs_20 : decode cX2_limbs 20 = .ok (.iconst 4, 1) := by decide +kernel
theorem dX2_limbs_21 : decode cX2_limbs 21 = .ok (.goto 4, 3) := by decide +kernel
theorem dX2_limbs_24 : decode cX2_limbs 24 = .ok (.iconst 3, 1) := by decide +kernel
theorem dX2_limbs_25 : decode cX2_limbs 25 = .ok (.ireturn, 1) := by decide +kernel
theorem dX2_limbs_26 : decode cX2_limbs 26 = .ok (.aload_n 0, 1) := by decide +kernel
theorem dX2_limbs_27 : decode cX2_limbs 27 = .ok (.invokevirtual 54, 3) := by decide +kernel
theorem dX2_limbs_30 : decode cX2_limbs 30 = .ok (.bipush 32, 2) := by decide +kernel
theorem dX2_limbs_32 : decode cX2_limbs 32 = .ok (.lushr, 1) := by decide +kernel
theorem dX2_limbs_33 : decode cX2_limbs 33 = .ok (.lconst 0, 1) := by decide +kernel
theorem dX2_limbs_34 : decode cX2_limbs 34 = .ok (.lcmp, 1) := by decide +kernel
theorem dX2_limbs_35 : decode cX2_limbs 35 = .ok (.ifCond .eq 7, 3) := by decide +kernel
theorem dX2_limbs_38 : decode cX2_limbs 38 = .ok (.iconst 2, 1) := by decide +kernel
theorem dX2_limbs_39 : decode cX2_limbs 39 = .ok (.goto 4, 3) := by decide +kernel
theorem dX2_limbs_42 : decode cX2_limbs 42 = .ok (.iconst 1, 1) := by decide +kernel
theorem dX2_limbs_43 : decode cX2_limbs 43 = .ok (.ireturn, 1) := by decide +kernel
theorem dX2_limbOfAmount_0 : decode cX2_limbOfAmount 0 = .ok (.iload_n 1, 1) := by decide +kernel
theorem dX2_limbOfAmount_1 : decode cX2_limbOfAmount 1 = .ok (.iconst 2, 1) := by decide +kernel
theorem dX2_limbOfAmount_2 : decode cX2_limbOfAmount 2 = .ok (.if_icmp .ge 10, 3) := by decide +kernel
theorem dX2_limbOfAmount_5 : decode cX2_limbOfAmount 5 = .ok (.aload_n 0, 1) := by decide +kernel
theorem dX2_limbOfAmount_6 : decode cX2_limbOfAmount 6 = .ok (.invokevirtual 54, 3) := by decide +kernel
theorem dX2_limbOfAmount_9 : decode cX2_limbOfAmount 9 = .ok (.goto 7, 3) := by decide +kernel
theorem dX2_limbOfAmount_12 : decode cX2_limbOfAmount 12 = .ok (.aload_n 0, 1) := by decide +kernel
theorem dX2_limbOfAmount_13 : decode cX2_limbOfAmount 13 = .ok (.invokevirtual 50, 3) := by decide +kernel
theorem dX2_limbOfAmount_16 : decode cX2_limbOfAmount 16 = .ok (.lstore_n 2, 1) := by decide +kernel
theorem dX2_limbOfAmount_17 : decode cX2_limbOfAmount 17 = .ok (.iload_n 1, 1) := by decide +kernel
theorem dX2_limbOfAmount_18 : decode cX2_limbOfAmount 18 = .ok (.iconst 1, 1) := by decide +kernel
theorem dX2_limbOfAmount_19 : decode cX2_limbOfAmount 19 = .ok (.iand, 1) := by decide +kernel
theorem dX2_limbOfAmount_20 : decode cX2_limbOfAmount 20 = .ok (.ifCond .ne 11, 3) := by decide +kernel
theorem dX2_limbOfAmount_23 : decode cX2_limbOfAmount 23 = .ok (.lload_n 2, 1) := by decide +kernel
theorem dX2_limbOfAmount_24 : decode cX2_limbOfAmount 24 = .ok (.ldc2_w 57, 3) := by decide +kernel
theorem dX2_limbOfAmount_27 : decode cX2_limbOfAmount 27 = .ok (.land, 1) := by decide +kernel
theorem dX2_limbOfAmount_28 : decode cX2_limbOfAmount 28 = .ok (.goto 7, 3) := by decide +kernel
theorem dX2_limbOfAmount_31 : decode cX2_limbOfAmount 31 = .ok (.lload_n 2, 1) := by decide +kernel
theorem dX2_limbOfAmount_32 : decode cX2_limbOfAmount 32 = .ok (.bipush 32, 2) := by decide +kernel
theorem dX2_limbOfAmount_34 : decode cX2_limbOfAmount 34 = .ok (.lushr, 1) := by decide +kernel
theorem dX2_limbOfAmount_35 : decode cX2_limbOfAmount 35 = .ok (.lreturn, 1) := by decide +kernel
theorem dX2_lowOfAmount_0 : decode cX2_lowOfAmount 0 = .ok (.aload_n 0, 1) := by decide +kernel
theorem dX2_lowOfAmount_1 : decode cX2_lowOfAmount 1 = .ok (.getfield 17, 3) := by decide +kernel
theorem dX2_lowOfAmount_4 : decode cX2_lowOfAmount 4 = .ok (.lconst 0, 1) := by decide +kernel
theorem dX2_lowOfAmount_5 : decode cX2_lowOfAmount 5 = .ok (.lcmp, 1) := by decide +kernel
theorem dX2_lowOfAmount_6 : decode cX2_lowOfAmount 6 = .ok (.ifCond .ge 11, 3) := by decide +kernel
theorem dX2_lowOfAmount_9 : decode cX2_lowOfAmount 9 = .ok (.aload_n 0, 1) := by decide +kernel
theorem dX2_lowOfAmount_10 : decode cX2_lowOfAmount 10 = .ok (.getfield 9, 3) := by decide +kernel
theorem dX2_lowOfAmount_13 : decode cX2_lowOfAmount 13 = .ok (.lneg, 1) := by decide +kernel
theorem dX2_lowOfAmount_14 : decode cX2_lowOfAmount 14 = .ok (.goto 7, 3) := by decide +kernel
theorem dX2_lowOfAmount_17 : decode cX2_lowOfAmount 17 = .ok (.aload_n 0, 1) := by decide +kernel
theorem dX2_lowOfAmount_18 : decode cX2_lowOfAmount 18 = .ok (.getfield 9, 3) := by decide +kernel
theorem dX2_lowOfAmount_21 : decode cX2_lowOfAmount 21 = .ok (.lreturn, 1) := by decide +kernel
theorem dX2_highOfAmount_0 : decode cX2_highOfAmount 0 = .ok (.aload_n 0, 1) := by decide +kernel
theorem dX2_highOfAmount_1 : decode cX2_highOfAmount 1 = .ok (.getfield 17, 3) := by decide +kernel
theorem dX2_highOfAmount_4 : decode cX2_highOfAmount 4 = .ok (.lconst 0, 1) := by decide +kernel
theorem dX2_highOfAmount_5 : decode cX2_highOfAmount 5 = .ok (.lcmp, 1) := by decide +kernel
theorem dX2_highOfAmount_6 : decode cX2_highOfAmount 6 = .ok (.ifCond .lt 8, 3) := by decide +kernel
theorem dX2_highOfAmount_9 : decode cX2_highOfAmount 9 = .ok (.aload_n 0, 1) := by decide +kernel
theorem dX2_highOfAmount_10 : decode cX2_highOfAmount 10 = .ok (.getfield 17, 3) := by decide +kernel
theorem dX2_highOfAmount_13 : decode cX2_highOfAmount 13 = .ok (.lreturn, 1) := by decide +kernel
theorem dX2_highOfAmount_14 : decode cX2_highOfAmount 14 = .ok (.aload_n 0, 1) := by decide +kernel
theorem dX2_highOfAmount_15 : decode cX2_highOfAmount 15 = .ok (.getfield 9, 3) := by decide +kernel
theorem dX2_highOfAmount_18 : decode cX2_highOfAmount 18 = .ok (.lconst 0, 1) := by decide +kernel
theorem dX2_highOfAmount_19 : decode cX2_highOfAmount 19 = .ok (.lcmp, 1) := by decide +kernel
theorem dX2_highOfAmount_20 : decode cX2_highOfAmount 20 = .ok (.ifCond .ne 11, 3) := by decide +kernel
theorem dX2_highOfAmount_23 : decode cX2_highOfAmount 23 = .ok (.aload_n 0, 1) := by decide +kernel
theorem dX2_highOfAmount_24 : decode cX2_highOfAmount 24 = .ok (.getfield 17, 3) := by decide +kernel
theorem dX2_highOfAmount_27 : decode cX2_highOfAmount 27 = .ok (.lneg, 1) := by decide +kernel
theorem dX2_highOfAmount_28 : decode cX2_highOfAmount 28 = .ok (.goto 11, 3) := by decide +kernel
theorem dX2_highOfAmount_31 : decode cX2_highOfAmount 31 = .ok (.aload_n 0, 1) := by decide +kernel
theorem dX2_highOfAmount_32 : decode cX2_highOfAmount 32 = .ok (.getfield 17, 3) := by decide +kernel
theorem dX2_highOfAmount_35 : decode cX2_highOfAmount 35 = .ok (.ldc2_w 15, 3) := by decide +kernel
theorem dX2_highOfAmount_38 : decode cX2_highOfAmount 38 = .ok (.lxor, 1) := by decide +kernel
theorem dX2_highOfAmount_39 : decode cX2_highOfAmount 39 = .ok (.lreturn, 1) := by decide +kernel
theorem dX2_isBelowUnsigned_0 : decode cX2_isBelowUnsigned 0 = .ok (.lload_n 0, 1) := by decide +kernel
theorem dX2_isBelowUnsigned_1 : decode cX2_isBelowUnsigned 1 = .ok (.ldc2_w 59, 3) := by decide +kernel
theorem dX2_isBelowUnsigned_4 : decode cX2_isBelowUnsigned 4 = .ok (.lxor, 1) := by decide +kernel
theorem dX2_isBelowUnsigned_5 : decode cX2_isBelowUnsigned 5 = .ok (.lload_n 2, 1) := by decide +kernel
theorem dX2_isBelowUnsigned_6 : decode cX2_isBelowUnsigned 6 = .ok (.ldc2_w 59, 3) := by decide +kernel
theorem dX2_isBelowUnsigned_9 : decode cX2_isBelowUnsigned 9 = .ok (.lxor, 1) := by decide +kernel
theorem dX2_isBelowUnsigned_10 : decode cX2_isBelowUnsigned 10 = .ok (.lcmp, 1) := by decide +kernel
theorem dX2_isBelowUnsigned_11 : decode cX2_isBelowUnsigned 11 = .ok (.ifCond .ge 7, 3) := by decide +kernel
theorem dX2_isBelowUnsigned_14 : decode cX2_isBelowUnsigned 14 = .ok (.iconst 1, 1) := by decide +kernel
theorem dX2_isBelowUnsigned_15 : decode cX2_isBelowUnsigned 15 = .ok (.goto 4, 3) := by decide +kernel
theorem dX2_isBelowUnsigned_18 : decode cX2_isBelowUnsigned 18 = .ok (.iconst 0, 1) := by decide +kernel
theorem dX2_isBelowUnsigned_19 : decode cX2_isBelowUnsigned 19 = .ok (.ireturn, 1) := by decide +kernel
theorem dX2_highOfProduct_0 : decode cX2_highOfProduct 0 = .ok (.lload_n 0, 1) := by decide +kernel
theorem dX2_highOfProduct_1 : decode cX2_highOfProduct 1 = .ok (.ldc2_w 57, 3) := by decide +kernel
theorem dX2_highOfProduct_4 : decode cX2_highOfProduct 4 = .ok (.land, 1) := by decide +kernel
theorem dX2_highOfProduct_5 : decode cX2_highOfProduct 5 = .ok (.lstore 4, 2) := by decide +kernel
theorem dX2_highOfProduct_7 : decode cX2_highOfProduct 7 = .ok (.lload_n 0, 1) := by decide +kernel
theorem dX2_highOfProduct_8 : decode cX2_highOfProduct 8 = .ok (.bipush 32, 2) := by decide +kernel
theorem dX2_highOfProduct_10 : decode cX2_highOfProduct 10 = .ok (.lshr, 1) := by decide +kernel
theorem dX2_highOfProduct_11 : decode cX2_highOfProduct 11 = .ok (.lstore 6, 2) := by decide +kernel
theorem dX2_highOfProduct_13 : decode cX2_highOfProduct 13 = .ok (.lload_n 2, 1) := by decide +kernel
theorem dX2_highOfProduct_14 : decode cX2_highOfProduct 14 = .ok (.ldc2_w 57, 3) := by decide +kernel
theorem dX2_highOfProduct_17 : decode cX2_highOfProduct 17 = .ok (.land, 1) := by decide +kernel
theorem dX2_highOfProduct_18 : decode cX2_highOfProduct 18 = .ok (.lstore 8, 2) := by decide +kernel
theorem dX2_highOfProduct_20 : decode cX2_highOfProduct 20 = .ok (.lload_n 2, 1) := by decide +kernel
theorem dX2_highOfProduct_21 : decode cX2_highOfProduct 21 = .ok (.bipush 32, 2) := by decide +kernel
theorem dX2_highOfProduct_23 : decode cX2_highOfProduct 23 = .ok (.lshr, 1) := by decide +kernel
theorem dX2_highOfProduct_24 : decode cX2_highOfProduct 24 = .ok (.lstore 10, 2) := by decide +kernel
theorem dX2_highOfProduct_26 : decode cX2_highOfProduct 26 = .ok (.lload 6, 2) := by decide +kernel
theorem dX2_highOfProduct_28 : decode cX2_highOfProduct 28 = .ok (.lload 8, 2) := by decide +kernel
theorem dX2_highOfProduct_30 : decode cX2_highOfProduct 30 = .ok (.lmul, 1) := by decide +kernel
theorem dX2_highOfProduct_31 : decode cX2_highOfProduct 31 = .ok (.lload 4, 2) := by decide +kernel
theorem dX2_highOfProduct_33 : decode cX2_highOfProduct 33 = .ok (.lload 8, 2) := by decide +kernel
theorem dX2_highOfProduct_35 : decode cX2_highOfProduct 35 = .ok (.lmul, 1) := by decide +kernel
theorem dX2_highOfProduct_36 : decode cX2_highOfProduct 36 = .ok (.bipush 32, 2) := by decide +kernel
theorem dX2_highOfProduct_38 : decode cX2_highOfProduct 38 = .ok (.lushr, 1) := by decide +kernel
theorem dX2_highOfProduct_39 : decode cX2_highOfProduct 39 = .ok (.ladd, 1) := by decide +kernel
theorem dX2_highOfProduct_40 : decode cX2_highOfProduct 40 = .ok (.lstore 12, 2) := by decide +kernel
theorem dX2_highOfProduct_42 : decode cX2_highOfProduct 42 = .ok (.lload 4, 2) := by decide +kernel
theorem dX2_highOfProduct_44 : decode cX2_highOfProduct 44 = .ok (.lload 10, 2) := by decide +kernel
theorem dX2_highOfProduct_46 : decode cX2_highOfProduct 46 = .ok (.lmul, 1) := by decide +kernel
theorem dX2_highOfProduct_47 : decode cX2_highOfProduct 47 = .ok (.lload 12, 2) := by decide +kernel
theorem dX2_highOfProduct_49 : decode cX2_highOfProduct 49 = .ok (.ldc2_w 57, 3) := by decide +kernel
theorem dX2_highOfProduct_52 : decode cX2_highOfProduct 52 = .ok (.land, 1) := by decide +kernel
theorem dX2_highOfProduct_53 : decode cX2_highOfProduct 53 = .ok (.ladd, 1) := by decide +kernel
theorem dX2_highOfProduct_54 : decode cX2_highOfProduct 54 = .ok (.lstore 14, 2) := by decide +kernel
theorem dX2_highOfProduct_56 : decode cX2_highOfProduct 56 = .ok (.lload 6, 2) := by decide +kernel
theorem dX2_highOfProduct_58 : decode cX2_highOfProduct 58 = .ok (.lload 10, 2) := by decide +kernel
theorem dX2_highOfProduct_60 : decode cX2_highOfProduct 60 = .ok (.lmul, 1) := by decide +kernel
theorem dX2_highOfProduct_61 : decode cX2_highOfProduct 61 = .ok (.lload 12, 2) := by decide +kernel
theorem dX2_highOfProduct_63 : decode cX2_highOfProduct 63 = .ok (.bipush 32, 2) := by decide +kernel
theorem dX2_highOfProduct_65 : decode cX2_highOfProduct 65 = .ok (.lshr, 1) := by decide +kernel
theorem dX2_highOfProduct_66 : decode cX2_highOfProduct 66 = .ok (.ladd, 1) := by decide +kernel
theorem dX2_highOfProduct_67 : decode cX2_highOfProduct 67 = .ok (.lload 14, 2) := by decide +kernel
theorem dX2_highOfProduct_69 : decode cX2_highOfProduct 69 = .ok (.bipush 32, 2) := by decide +kernel
theorem dX2_highOfProduct_71 : decode cX2_highOfProduct 71 = .ok (.lshr, 1) := by decide +kernel
theorem dX2_highOfProduct_72 : decode cX2_highOfProduct 72 = .ok (.ladd, 1) := by decide +kernel
theorem dX2_highOfProduct_73 : decode cX2_highOfProduct 73 = .ok (.lreturn, 1) := by decide +kernel
end
section
theorem dX0_init_0 : decode cX0_init 0 = .ok (.aload_n 0, 1) := by decide +kernel
theorem dX0_init_1 : decode cX0_init 1 = .ok (.invokespecial 3, 3) := by decide +kernel
theorem dX0_init_4 : decode cX0_init 4 = .ok (.aload_n 0, 1) := by decide +kernel
theorem dX0_init_5 : decode cX0_init 5 = .ok (.new 9, 3) := by decide +kernel
theorem dX0_init_8 : decode cX0_init 8 = .ok (.dup, 1) := by decide +kernel
theorem dX0_init_9 : decode cX0_init 9 = .ok (.invokespecial 11, 3) := by decide +kernel
theorem dX0_init_12 : decode cX0_init 12 = .ok (.putfield 12, 3) := by decide +kernel
theorem dX0_init_15 : decode cX0_init 15 = .ok (.aload_n 0, 1) := by decide +kernel
theorem dX0_init_16 : decode cX0_init 16 = .ok (.new 9, 3) := by decide +kernel
theorem dX0_init_19 : decode cX0_init 19 = .ok (.dup, 1) := by decide +kernel
theorem dX0_init_20 : decode cX0_init 20 = .ok (.invokespecial 11, 3) := by decide +kernel
theorem dX0_init_23 : decode cX0_init 23 = .ok (.putfield 18, 3) := by decide +kernel
theorem dX0_init_26 : decode cX0_init 26 = .ok (.aload_n 0, 1) := by decide +kernel
theorem dX0_init_27 : decode cX0_init 27 = .ok (.new 9, 3) := by decide +kernel
theorem dX0_init_30 : decode cX0_init 30 = .ok (.dup, 1) := by decide +kernel
theorem dX0_init_31 : decode cX0_init 31 = .ok (.invokespecial 11, 3) := by decide +kernel
theorem dX0_init_34 : decode cX0_init 34 = .ok (.putfield 21, 3) := by decide +kernel
theorem dX0_init_37 : decode cX0_init 37 = .ok (.aload_n 0, 1) := by decide +kernel
theorem dX0_init_38 : decode cX0_init 38 = .ok (.new 9, 3) := by decide +kernel
theorem dX0_init_41 : decode cX0_init 41 = .ok (.dup, 1) := by decide +kernel
theorem dX0_init_42 : decode cX0_init 42 = .ok (.invokespecial 11, 3) := by decide +kernel
theorem dX0_init_45 : decode cX0_init 45 = .ok (.putfield 24, 3) := by decide +kernel
theorem dX0_init_48 : decode cX0_init 48 = .ok (.aload_n 0, 1) := by decide +kernel
theorem dX0_init_49 : decode cX0_init 49 = .ok (.new 9, 3) := by decide +kernel
theorem dX0_init_52 : decode cX0_init 52 = .ok (.dup, 1) := by decide +kernel
theorem dX0_init_53 : decode cX0_init 53 = .ok (.invokespecial 11, 3) := by decide +kernel
theorem dX0_init_56 : decode cX0_init 56 = .ok (.putfield 27, 3) := by decide +kernel
theorem dX0_init_59 : decode cX0_init 59 = .ok (.return_, 1) := by decide +kernel
theorem dX0_rounded_0 : decode cX0_rounded 0 = .ok (.aload_n 1, 1) := by decide +kernel
theorem dX0_rounded_1 : decode cX0_rounded 1 = .ok (.invokevirtual 30, 3) := by decide +kernel
theorem dX0_rounded_4 : decode cX0_rounded 4 = .ok (.aload_n 2, 1) := by decide +kernel
theorem dX0_rounded_5 : decode cX0_rounded 5 = .ok (.invokevirtual 30, 3) := by decide +kernel
theorem dX0_rounded_8 : decode cX0_rounded 8 = .ok (.imul, 1) := by decide +kernel
theorem dX0_rounded_9 : decode cX0_rounded 9 = .ok (.ifCond .ge 7, 3) := by decide +kernel
theorem dX0_rounded_12 : decode cX0_rounded 12 = .ok (.iconst 1, 1) := by decide +kernel
theorem dX0_rounded_13 : decode cX0_rounded 13 = .ok (.goto 4, 3) := by decide +kernel
theorem dX0_rounded_16 : decode cX0_rounded 16 = .ok (.iconst 0, 1) := by decide +kernel
theorem dX0_rounded_17 : decode cX0_rounded 17 = .ok (.istore 4, 2) := by decide +kernel
theorem dX0_rounded_19 : decode cX0_rounded 19 = .ok (.aload_n 0, 1) := by decide +kernel
theorem dX0_rounded_20 : decode cX0_rounded 20 = .ok (.aload_n 1, 1) := by decide +kernel
theorem dX0_rounded_21 : decode cX0_rounded 21 = .ok (.aload_n 2, 1) := by decide +kernel
theorem dX0_rounded_22 : decode cX0_rounded 22 = .ok (.invokevirtual 34, 3) := by decide +kernel
theorem dX0_rounded_25 : decode cX0_rounded 25 = .ok (.aload_n 0, 1) := by decide +kernel
theorem dX0_rounded_26 : decode cX0_rounded 26 = .ok (.iload 4, 2) := by decide +kernel
theorem dX0_rounded_28 : decode cX0_rounded 28 = .ok (.iload_n 3, 1) := by decide +kernel
theorem dX0_rounded_29 : decode cX0_rounded 29 = .ok (.invokevirtual 38, 3) := by decide +kernel
theorem dX0_rounded_32 : decode cX0_rounded 32 = .ok (.ifCond .eq 15, 3) := by decide +kernel
theorem dX0_rounded_35 : decode cX0_rounded 35 = .ok (.aload_n 0, 1) := by decide +kernel
theorem dX0_rounded_36 : decode cX0_rounded 36 = .ok (.getfield 12, 3) := by decide +kernel
theorem dX0_rounded_39 : decode cX0_rounded 39 = .ok (.getfield 42, 3) := by decide +kernel
theorem dX0_rounded_42 : decode cX0_rounded 42 = .ok (.lconst 1, 1) := by decide +kernel
theorem dX0_rounded_43 : decode cX0_rounded 43 = .ok (.ladd, 1) := by decide +kernel
theorem dX0_rounded_44 : decode cX0_rounded 44 = .ok (.goto 10, 3) := by decide +kernel
theorem dX0_rounded_47 : decode cX0_rounded 47 = .ok (.aload_n 0, 1) := by decide +kernel
theorem dX0_rounded_48 : decode cX0_rounded 48 = .ok (.getfield 12, 3) := by decide +kernel
theorem dX0_rounded_51 : decode cX0_rounded 51 = .ok (.getfield 42, 3) := by decide +kernel
theorem dX0_rounded_54 : decode cX0_rounded 54 = .ok (.lstore 5, 2) := by decide +kernel
theorem dX0_rounded_56 : decode cX0_rounded 56 = .ok (.iload 4, 2) := by decide +kernel
theorem dX0_rounded_58 : decode cX0_rounded 58 = .ok (.ifCond .eq 9, 3) := by decide +kernel
theorem dX0_rounded_61 : decode cX0_rounded 61 = .ok (.lload 5, 2) := by decide +kernel
theorem dX0_rounded_63 : decode cX0_rounded 63 = .ok (.lneg, 1) := by decide +kernel
theorem dX0_rounded_64 : decode cX0_rounded 64 = .ok (.goto 5, 3) := by decide +kernel
theorem dX0_rounded_67 : decode cX0_rounded 67 = .ok (.lload 5, 2) := by decide +kernel
theorem dX0_rounded_69 : decode cX0_rounded 69 = .ok (.lreturn, 1) := by decide +kernel
theorem dX0_divideAmounts_0 : decode cX0_divideAmounts 0 = .ok (.aload_n 0, 1) := by decide +kernel
theorem dX0_divideAmounts_1 : decode cX0_divideAmounts 1 = .ok (.getfield 12, 3) := by decide +kernel
theorem dX0_divideAmounts_4 : decode cX0_divideAmounts 4 = .ok (.lconst 0, 1) := by decide +kernel
theorem dX0_divideAmounts_5 : decode cX0_divideAmounts 5 = .ok (.invokevirtual 46, 3) := by decide +kernel
theorem dX0_divideAmounts_8 : decode cX0_divideAmounts 8 = .ok (.aload_n 0, 1) := by decide +kernel
theorem dX0_divideAmounts_9 : decode cX0_divideAmounts 9 = .ok (.getfield 18, 3) := by decide +kernel
theorem dX0_divideAmounts_12 : decode cX0_divideAmounts 12 = .ok (.aload_n 1, 1) := by decide +kernel
theorem dX0_divideAmounts_13 : decode cX0_divideAmounts 13 = .ok (.invokevirtual 50, 3) := by decide +kernel
theorem dX0_divideAmounts_16 : decode cX0_divideAmounts 16 = .ok (.aload_n 0, 1) := by decide +kernel
theorem dX0_divideAmounts_17 : decode cX0_divideAmounts 17 = .ok (.getfield 21, 3) := by decide +kernel
theorem dX0_divideAmounts_20 : decode cX0_divideAmounts 20 = .ok (.aload_n 2, 1) := by decide +kernel
theorem dX0_divideAmounts_21 : decode cX0_divideAmounts 21 = .ok (.invokevirtual 50, 3) := by decide +kernel
theorem dX0_divideAmounts_24 : decode cX0_divideAmounts 24 = .ok (.aload_n 0, 1) := by decide +kernel
theorem dX0_divideAmounts_25 : decode cX0_divideAmounts 25 = .ok (.getfield 24, 3) := by decide +kernel
theorem dX0_divideAmounts_28 : decode cX0_divideAmounts 28 = .ok (.aload_n 0, 1) := by decide +kernel
theorem dX0_divideAmounts_29 : decode cX0_divideAmounts 29 = .ok (.getfield 18, 3) := by decide +kernel
theorem dX0_divideAmounts_32 : decode cX0_divideAmounts 32 = .ok (.invokevirtual 54, 3) := by decide +kernel
theorem dX0_divideAmounts_35 : decode cX0_divideAmounts 35 = .ok (.aload_n 0, 1) := by decide +kernel
theorem dX0_divideAmounts_36 : decode cX0_divideAmounts 36 = .ok (.getfield 24, 3) := by decide +kernel
theorem dX0_divideAmounts_39 : decode cX0_divideAmounts 39 = .ok (.invokevirtual 57, 3) := by decide +kernel
theorem dX0_divideAmounts_42 : decode cX0_divideAmounts 42 = .ok (.iconst 0, 1) := by decide +kernel
theorem dX0_divideAmounts_43 : decode cX0_divideAmounts 43 = .ok (.istore_n 3, 1) := by decide +kernel
theorem dX0_divideAmounts_44 : decode cX0_divideAmounts 44 = .ok (.iload_n 3, 1) := by decide +kernel
theorem dX0_divideAmounts_45 : decode cX0_divideAmounts 45 = .ok (.bipush 127, 2) := by decide +kernel
theorem dX0_divideAmounts_47 : decode cX0_divideAmounts 47 = .ok (.if_icmp .ge 30, 3) := by decide +kernel
theorem dX0_divideAmounts_50 : decode cX0_divideAmounts 50 = .ok (.aload_n 0, 1) := by decide +kernel
theorem dX0_divideAmounts_51 : decode cX0_divideAmounts 51 = .ok (.getfield 21, 3) := by decide +kernel
theorem dX0_divideAmounts_54 : decode cX0_divideAmounts 54 = .ok (.aload_n 0, 1) := by decide +kernel
theorem dX0_divideAmounts_55 : decode cX0_divideAmounts 55 = .ok (.getfield 24, 3) := by decide +kernel
theorem dX0_divideAmounts_58 : decode cX0_divideAmounts 58 = .ok (.invokevirtual 60, 3) := by decide +kernel
theorem dX0_divideAmounts_61 : decode cX0_divideAmounts 61 = .ok (.ifCond .gt 16, 3) := by decide +kernel
theorem dX0_divideAmounts_64 : decode cX0_divideAmounts 64 = .ok (.aload_n 0, 1) := by decide +kernel
theorem dX0_divideAmounts_65 : decode cX0_divideAmounts 65 = .ok (.getfield 21, 3) := by decide +kernel
theorem dX0_divideAmounts_68 : decode cX0_divideAmounts 68 = .ok (.invokevirtual 64, 3) := by decide +kernel
theorem dX0_divideAmounts_71 : decode cX0_divideAmounts 71 = .ok (.iinc 3 1, 3) := by decide +kernel
theorem dX0_divideAmounts_74 : decode cX0_divideAmounts 74 = .ok (.goto (-30), 3) := by decide +kernel
theorem dX0_divideAmounts_77 : decode cX0_divideAmounts 77 = .ok (.iload_n 3, 1) := by decide +kernel
theorem dX0_divideAmounts_78 : decode cX0_divideAmounts 78 = .ok (.istore 4, 2) := by decide +kernel
theorem dX0_divideAmounts_80 : decode cX0_divideAmounts 80 = .ok (.iload 4, 2) := by decide +kernel
theorem dX0_divideAmounts_82 : decode cX0_divideAmounts 82 = .ok (.ifCond .lt 60, 3) := by decide +kernel
theorem dX0_divideAmounts_85 : decode cX0_divideAmounts 85 = .ok (.aload_n 0, 1) := by decide +kernel
theorem dX0_divideAmounts_86 : decode cX0_divideAmounts 86 = .ok (.getfield 12, 3) := by decide +kernel
theorem dX0_divideAmounts_89 : decode cX0_divideAmounts 89 = .ok (.invokevirtual 64, 3) := by decide +kernel
theorem dX0_divideAmounts_92 : decode cX0_divideAmounts 92 = .ok (.aload_n 0, 1) := by decide +kernel
theorem dX0_divideAmounts_93 : decode cX0_divideAmounts 93 = .ok (.getfield 21, 3) := by decide +kernel
theorem dX0_divideAmounts_96 : decode cX0_divideAmounts 96 = .ok (.aload_n 0, 1) := by decide +kernel
theorem dX0_divideAmounts_97 : decode cX0_divideAmounts 97 = .ok (.getfield 18, 3) := by decide +kernel
theorem dX0_divideAmounts_100 : decode cX0_divideAmounts 100 = .ok (.invokevirtual 60, 3) := by decide +kernel
theorem dX0_divideAmounts_103 : decode cX0_divideAmounts 103 = .ok (.ifCond .gt 21, 3) := by decide +kernel
theorem dX0_divideAmounts_106 : decode cX0_divideAmounts 106 = .ok (.aload_n 0, 1) := by decide +kernel
theorem dX0_divideAmounts_107 : decode cX0_divideAmounts 107 = .ok (.getfield 18, 3) := by decide +kernel
theorem dX0_divideAmounts_110 : decode cX0_divideAmounts 110 = .ok (.aload_n 0, 1) := by decide +kernel
theorem dX0_divideAmounts_111 : decode cX0_divideAmounts 111 = .ok (.getfield 21, 3) := by decide +kernel
theorem dX0_divideAmounts_114 : decode cX0_divideAmounts 114 = .ok (.invokevirtual 67, 3) := by decide +kernel
theorem dX0_divideAmounts_117 : decode cX0_divideAmounts 117 = .ok (.aload_n 0, 1) := by decide +kernel
theorem dX0_divideAmounts_118 : decode cX0_divideAmounts 118 = .ok (.getfield 12, 3) := by decide +kernel
theorem dX0_divideAmounts_121 : decode cX0_divideAmounts 121 = .ok (.invokevirtual 70, 3) := by decide +kernel
theorem dX0_divideAmounts_124 : decode cX0_divideAmounts 124 = .ok (.iload 4, 2) := by decide +kernel
theorem dX0_divideAmounts_126 : decode cX0_divideAmounts 126 = .ok (.ifCond .le 10, 3) := by decide +kernel
theorem dX0_divideAmounts_129 : decode cX0_divideAmounts 129 = .ok (.aload_n 0, 1) := by decide +kernel
theorem dX0_divideAmounts_130 : decode cX0_divideAmounts 130 = .ok (.getfield 21, 3) := by decide +kernel
theorem dX0_divideAmounts_133 : decode cX0_divideAmounts 133 = .ok (.invokevirtual 57, 3) := by decide +kernel
theorem dX0_divideAmounts_136 : decode cX0_divideAmounts 136 = .ok (.iinc 4 (-1), 3) := by decide +kernel
theorem dX0_divideAmounts_139 : decode cX0_divideAmounts 139 = .ok (.goto (-59), 3) := by decide +kernel
theorem dX0_divideAmounts_142 : decode cX0_divideAmounts 142 = .ok (.return_, 1) := by decide +kernel
theorem dX0_isOneMore_0 : decode cX0_isOneMore 0 = .ok (.aload_n 0, 1) := by decide +kernel
theorem dX0_isOneMore_1 : decode cX0_isOneMore 1 = .ok (.getfield 18, 3) := by decide +kernel
theorem dX0_isOneMore_4 : decode cX0_isOneMore 4 = .ok (.invokevirtual 30, 3) := by decide +kernel
theorem dX0_isOneMore_7 : decode cX0_isOneMore 7 = .ok (.ifCond .ne 5, 3) := by decide +kernel
theorem dX0_isOneMore_10 : decode cX0_isOneMore 10 = .ok (.iconst 0, 1) := by decide +kernel
theorem dX0_isOneMore_11 : decode cX0_isOneMore 11 = .ok (.ireturn, 1) := by decide +kernel
theorem dX0_isOneMore_12 : decode cX0_isOneMore 12 = .ok (.iload_n 2, 1) := by decide +kernel
theorem dX0_isOneMore_13 : decode cX0_isOneMore 13 = .ok (.tableswitch 47 0 3 #[31, 33, 43, 45], 31) := by decide +kernel
theorem dX0_isOneMore_44 : decode cX0_isOneMore 44 = .ok (.iload_n 1, 1) := by decide +kernel
theorem dX0_isOneMore_45 : decode cX0_isOneMore 45 = .ok (.ireturn, 1) := by decide +kernel
theorem dX0_isOneMore_46 : decode cX0_isOneMore 46 = .ok (.iload_n 1, 1) := by decide +kernel
theorem dX0_isOneMore_47 : decode cX0_isOneMore 47 = .ok (.ifCond .ne 7, 3) := by decide +kernel
theorem dX0_isOneMore_50 : decode cX0_isOneMore 50 = .ok (.iconst 1, 1) := by decide +kernel
theorem dX0_isOneMore_51 : decode cX0_isOneMore 51 = .ok (.goto 4, 3) := by decide +kernel
theorem dX0_isOneMore_54 : decode cX0_isOneMore 54 = .ok (.iconst 0, 1) := by decide +kernel
theorem dX0_isOneMore_55 : decode cX0_isOneMore 55 = .ok (.ireturn, 1) := by decide +kernel
theorem dX0_isOneMore_56 : decode cX0_isOneMore 56 = .ok (.iconst 0, 1) := by decide +kernel
theorem dX0_isOneMore_57 : decode cX0_isOneMore 57 = .ok (.ireturn, 1) := by decide +kernel
theorem dX0_isOneMore_58 : decode cX0_isOneMore 58 = .ok (.iconst 1, 1) := by decide +kernel
theorem dX0_isOneMore_59 : decode cX0_isOneMore 59 = .ok (.ireturn, 1) := by decide +kernel
theorem dX0_isOneMore_60 : decode cX0_isOneMore 60 = .ok (.aload_n 0, 1) := by decide +kernel
theorem dX0_isOneMore_61 : decode cX0_isOneMore 61 = .ok (.iload_n 2, 1) := by decide +kernel
theorem dX0_isOneMore_62 : decode cX0_isOneMore 62 = .ok (.invokevirtual 73, 3) := by decide +kernel
theorem dX0_isOneMore_65 : decode cX0_isOneMore 65 = .ok (.ireturn, 1) := by decide +kernel
theorem dX0_isOneMoreNearer_0 : decode cX0_isOneMoreNearer 0 = .ok (.aload_n 0, 1) := by decide +kernel
theorem dX0_isOneMoreNearer_1 : decode cX0_isOneMoreNearer 1 = .ok (.getfield 18, 3) := by decide +kernel
theorem dX0_isOneMoreNearer_4 : decode cX0_isOneMoreNearer 4 = .ok (.invokevirtual 64, 3) := by decide +kernel
theorem dX0_isOneMoreNearer_7 : decode cX0_isOneMoreNearer 7 = .ok (.aload_n 0, 1) := by decide +kernel
theorem dX0_isOneMoreNearer_8 : decode cX0_isOneMoreNearer 8 = .ok (.getfield 18, 3) := by decide +kernel
theorem dX0_isOneMoreNearer_11 : decode cX0_isOneMoreNearer 11 = .ok (.aload_n 0, 1) := by decide +kernel
theorem dX0_isOneMoreNearer_12 : decode cX0_isOneMoreNearer 12 = .ok (.getfield 21, 3) := by decide +kernel
theorem dX0_isOneMoreNearer_15 : decode cX0_isOneMoreNearer 15 = .ok (.invokevirtual 60, 3) := by decide +kernel
theorem dX0_isOneMoreNearer_18 : decode cX0_isOneMoreNearer 18 = .ok (.istore_n 2, 1) := by decide +kernel
theorem dX0_isOneMoreNearer_19 : decode cX0_isOneMoreNearer 19 = .ok (.iload_n 2, 1) := by decide +kernel
theorem dX0_isOneMoreNearer_20 : decode cX0_isOneMoreNearer 20 = .ok (.ifCond .eq 13, 3) := by decide +kernel
theorem dX0_isOneMoreNearer_23 : decode cX0_isOneMoreNearer 23 = .ok (.iload_n 2, 1) := by decide +kernel
theorem dX0_isOneMoreNearer_24 : decode cX0_isOneMoreNearer 24 = .ok (.ifCond .le 7, 3) := by decide +kernel
theorem dX0_isOneMoreNearer_27 : decode cX0_isOneMoreNearer 27 = .ok (.iconst 1, 1) := by decide +kernel
theorem dX0_isOneMoreNearer_28 : decode cX0_isOneMoreNearer 28 = .ok (.goto 4, 3) := by decide +kernel
theorem dX0_isOneMoreNearer_31 : decode cX0_isOneMoreNearer 31 = .ok (.iconst 0, 1) := by decide +kernel
theorem dX0_isOneMoreNearer_32 : decode cX0_isOneMoreNearer 32 = .ok (.ireturn, 1) := by decide +kernel
theorem dX0_isOneMoreNearer_33 : decode cX0_isOneMoreNearer 33 = .ok (.iload_n 1, 1) := by decide +kernel
theorem dX0_isOneMoreNearer_34 : decode cX0_isOneMoreNearer 34 = .ok (.iconst 4, 1) := by decide +kernel
theorem dX0_isOneMoreNearer_35 : decode cX0_isOneMoreNearer 35 = .ok (.if_icmp .eq 19, 3) := by decide +kernel
theorem dX0_isOneMoreNearer_38 : decode cX0_isOneMoreNearer 38 = .ok (.iload_n 1, 1) := by decide +kernel
theorem dX0_isOneMoreNearer_39 : decode cX0_isOneMoreNearer 39 = .ok (.bipush 6, 2) := by decide +kernel
theorem dX0_isOneMoreNearer_41 : decode cX0_isOneMoreNearer 41 = .ok (.if_icmp .ne 17, 3) := by decide +kernel
theorem dX0_isOneMoreNearer_44 : decode cX0_isOneMoreNearer 44 = .ok (.aload_n 0, 1) := by decide +kernel
theorem dX0_isOneMoreNearer_45 : decode cX0_isOneMoreNearer 45 = .ok (.getfield 12, 3) := by decide +kernel
theorem dX0_isOneMoreNearer_48 : decode cX0_isOneMoreNearer 48 = .ok (.invokevirtual 77, 3) := by decide +kernel
theorem dX0_isOneMoreNearer_51 : decode cX0_isOneMoreNearer 51 = .ok (.ifCond .eq 7, 3) := by decide +kernel
theorem dX0_isOneMoreNearer_54 : decode cX0_isOneMoreNearer 54 = .ok (.iconst 1, 1) := by decide +kernel
theorem dX0_isOneMoreNearer_55 : decode cX0_isOneMoreNearer 55 = .ok (.goto 4, 3) := by decide +kernel
theorem dX0_isOneMoreNearer_58 : decode cX0_isOneMoreNearer 58 = .ok (.iconst 0, 1) := by decide +kernel
theorem dX0_isOneMoreNearer_59 : decode cX0_isOneMoreNearer 59 = .ok (.ireturn, 1) := by decide +kernel
theorem dX0_findCommon_0 : decode cX0_findCommon 0 = .ok (.aload_n 0, 1) := by decide +kernel
theorem dX0_findCommon_1 : decode cX0_findCommon 1 = .ok (.getfield 18, 3) := by decide +kernel
theorem dX0_findCommon_4 : decode cX0_findCommon 4 = .ok (.aload_n 1, 1) := by decide +kernel
theorem dX0_findCommon_5 : decode cX0_findCommon 5 = .ok (.invokevirtual 50, 3) := by decide +kernel
theorem dX0_findCommon_8 : decode cX0_findCommon 8 = .ok (.aload_n 0, 1) := by decide +kernel
theorem dX0_findCommon_9 : decode cX0_findCommon 9 = .ok (.getfield 27, 3) := by decide +kernel
theorem dX0_findCommon_12 : decode cX0_findCommon 12 = .ok (.aload_n 2, 1) := by decide +kernel
theorem dX0_findCommon_13 : decode cX0_findCommon 13 = .ok (.invokevirtual 54, 3) := by decide +kernel
theorem dX0_findCommon_16 : decode cX0_findCommon 16 = .ok (.iconst 0, 1) := by decide +kernel
theorem dX0_findCommon_17 : decode cX0_findCommon 17 = .ok (.istore_n 3, 1) := by decide +kernel
theorem dX0_findCommon_18 : decode cX0_findCommon 18 = .ok (.iconst 0, 1) := by decide +kernel
theorem dX0_findCommon_19 : decode cX0_findCommon 19 = .ok (.istore 4, 2) := by decide +kernel
theorem dX0_findCommon_21 : decode cX0_findCommon 21 = .ok (.iload 4, 2) := by decide +kernel
theorem dX0_findCommon_23 : decode cX0_findCommon 23 = .ok (.sipush 254, 3) := by decide +kernel
theorem dX0_findCommon_26 : decode cX0_findCommon 26 = .ok (.if_icmp .ge 83, 3) := by decide +kernel
theorem dX0_findCommon_29 : decode cX0_findCommon 29 = .ok (.aload_n 0, 1) := by decide +kernel
theorem dX0_findCommon_30 : decode cX0_findCommon 30 = .ok (.getfield 18, 3) := by decide +kernel
theorem dX0_findCommon_33 : decode cX0_findCommon 33 = .ok (.invokevirtual 30, 3) := by decide +kernel
theorem dX0_findCommon_36 : decode cX0_findCommon 36 = .ok (.ifCond .eq 73, 3) := by decide +kernel
theorem dX0_findCommon_39 : decode cX0_findCommon 39 = .ok (.aload_n 0, 1) := by decide +kernel
theorem dX0_findCommon_40 : decode cX0_findCommon 40 = .ok (.getfield 18, 3) := by decide +kernel
theorem dX0_findCommon_43 : decode cX0_findCommon 43 = .ok (.invokevirtual 77, 3) := by decide +kernel
theorem dX0_findCommon_46 : decode cX0_findCommon 46 = .ok (.ifCond .ne 33, 3) := by decide +kernel
theorem dX0_findCommon_49 : decode cX0_findCommon 49 = .ok (.aload_n 0, 1) := by decide +kernel
theorem dX0_findCommon_50 : decode cX0_findCommon 50 = .ok (.getfield 18, 3) := by decide +kernel
theorem dX0_findCommon_53 : decode cX0_findCommon 53 = .ok (.invokevirtual 57, 3) := by decide +kernel
theorem dX0_findCommon_56 : decode cX0_findCommon 56 = .ok (.aload_n 0, 1) := by decide +kernel
theorem dX0_findCommon_57 : decode cX0_findCommon 57 = .ok (.getfield 27, 3) := by decide +kernel
theorem dX0_findCommon_60 : decode cX0_findCommon 60 = .ok (.invokevirtual 77, 3) := by decide +kernel
theorem dX0_findCommon_63 : decode cX0_findCommon 63 = .ok (.ifCond .ne 40, 3) := by decide +kernel
theorem dX0_findCommon_66 : decode cX0_findCommon 66 = .ok (.aload_n 0, 1) := by decide +kernel
theorem dX0_findCommon_67 : decode cX0_findCommon 67 = .ok (.getfield 27, 3) := by decide +kernel
theorem dX0_findCommon_70 : decode cX0_findCommon 70 = .ok (.invokevirtual 57, 3) := by decide +kernel
theorem dX0_findCommon_73 : decode cX0_findCommon 73 = .ok (.iinc 3 1, 3) := by decide +kernel
theorem dX0_findCommon_76 : decode cX0_findCommon 76 = .ok (.goto 27, 3) := by decide +kernel
theorem dX0_findCommon_79 : decode cX0_findCommon 79 = .ok (.aload_n 0, 1) := by decide +kernel
theorem dX0_findCommon_80 : decode cX0_findCommon 80 = .ok (.getfield 27, 3) := by decide +kernel
theorem dX0_findCommon_83 : decode cX0_findCommon 83 = .ok (.invokevirtual 77, 3) := by decide +kernel
theorem dX0_findCommon_86 : decode cX0_findCommon 86 = .ok (.ifCond .ne 13, 3) := by decide +kernel
theorem dX0_findCommon_89 : decode cX0_findCommon 89 = .ok (.aload_n 0, 1) := by decide +kernel
theorem dX0_findCommon_90 : decode cX0_findCommon 90 = .ok (.getfield 27, 3) := by decide +kernel
theorem dX0_findCommon_93 : decode cX0_findCommon 93 = .ok (.invokevirtual 57, 3) := by decide +kernel
theorem dX0_findCommon_96 : decode cX0_findCommon 96 = .ok (.goto 7, 3) := by decide +kernel
theorem dX0_findCommon_99 : decode cX0_findCommon 99 = .ok (.aload_n 0, 1) := by decide +kernel
theorem dX0_findCommon_100 : decode cX0_findCommon 100 = .ok (.invokevirtual 81, 3) := by decide +kernel
theorem dX0_findCommon_103 : decode cX0_findCommon 103 = .ok (.iinc 4 1, 3) := by decide +kernel
theorem dX0_findCommon_106 : decode cX0_findCommon 106 = .ok (.goto (-85), 3) := by decide +kernel
theorem dX0_findCommon_109 : decode cX0_findCommon 109 = .ok (.iconst 0, 1) := by decide +kernel
theorem dX0_findCommon_110 : decode cX0_findCommon 110 = .ok (.istore 4, 2) := by decide +kernel
theorem dX0_findCommon_112 : decode cX0_findCommon 112 = .ok (.iload 4, 2) := by decide +kernel
theorem dX0_findCommon_114 : decode cX0_findCommon 114 = .ok (.iload_n 3, 1) := by decide +kernel
theorem dX0_findCommon_115 : decode cX0_findCommon 115 = .ok (.if_icmp .ge 16, 3) := by decide +kernel
theorem dX0_findCommon_118 : decode cX0_findCommon 118 = .ok (.aload_n 0, 1) := by decide +kernel
theorem dX0_findCommon_119 : decode cX0_findCommon 119 = .ok (.getfield 27, 3) := by decide +kernel
theorem dX0_findCommon_122 : decode cX0_findCommon 122 = .ok (.invokevirtual 64, 3) := by decide +kernel
theorem dX0_findCommon_125 : decode cX0_findCommon 125 = .ok (.iinc 4 1, 3) := by decide +kernel
theorem dX0_findCommon_128 : decode cX0_findCommon 128 = .ok (.goto (-16), 3) := by decide +kernel
theorem dX0_findCommon_131 : decode cX0_findCommon 131 = .ok (.return_, 1) := by decide +kernel
theorem dX0_takeLessFromGreater_0 : decode cX0_takeLessFromGreater 0 = .ok (.aload_n 0, 1) := by decide +kernel
theorem dX0_takeLessFromGreater_1 : decode cX0_takeLessFromGreater 1 = .ok (.getfield 27, 3) := by decide +kernel
theorem dX0_takeLessFromGreater_4 : decode cX0_takeLessFromGreater 4 = .ok (.aload_n 0, 1) := by decide +kernel
theorem dX0_takeLessFromGreater_5 : decode cX0_takeLessFromGreater 5 = .ok (.getfield 18, 3) := by decide +kernel
theorem dX0_takeLessFromGreater_8 : decode cX0_takeLessFromGreater 8 = .ok (.invokevirtual 60, 3) := by decide +kernel
theorem dX0_takeLessFromGreater_11 : decode cX0_takeLessFromGreater 11 = .ok (.ifCond .gt 24, 3) := by decide +kernel
theorem dX0_takeLessFromGreater_14 : decode cX0_takeLessFromGreater 14 = .ok (.aload_n 0, 1) := by decide +kernel
theorem dX0_takeLessFromGreater_15 : decode cX0_takeLessFromGreater 15 = .ok (.getfield 18, 3) := by decide +kernel
theorem dX0_takeLessFromGreater_18 : decode cX0_takeLessFromGreater 18 = .ok (.aload_n 0, 1) := by decide +kernel
theorem dX0_takeLessFromGreater_19 : decode cX0_takeLessFromGreater 19 = .ok (.getfield 27, 3) := by decide +kernel
theorem dX0_takeLessFromGreater_22 : decode cX0_takeLessFromGreater 22 = .ok (.invokevirtual 67, 3) := by decide +kernel
theorem dX0_takeLessFromGreater_25 : decode cX0_takeLessFromGreater 25 = .ok (.aload_n 0, 1) := by decide +kernel
theorem dX0_takeLessFromGreater_26 : decode cX0_takeLessFromGreater 26 = .ok (.getfield 18, 3) := by decide +kernel
theorem dX0_takeLessFromGreater_29 : decode cX0_takeLessFromGreater 29 = .ok (.invokevirtual 57, 3) := by decide +kernel
theorem dX0_takeLessFromGreater_32 : decode cX0_takeLessFromGreater 32 = .ok (.goto 21, 3) := by decide +kernel
theorem dX0_takeLessFromGreater_35 : decode cX0_takeLessFromGreater 35 = .ok (.aload_n 0, 1) := by decide +kernel
theorem dX0_takeLessFromGreater_36 : decode cX0_takeLessFromGreater 36 = .ok (.getfield 27, 3) := by decide +kernel
theorem dX0_takeLessFromGreater_39 : decode cX0_takeLessFromGreater 39 = .ok (.aload_n 0, 1) := by decide +kernel
theorem dX0_takeLessFromGreater_40 : decode cX0_takeLessFromGreater 40 = .ok (.getfield 18, 3) := by decide +kernel
theorem dX0_takeLessFromGreater_43 : decode cX0_takeLessFromGreater 43 = .ok (.invokevirtual 67, 3) := by decide +kernel
theorem dX0_takeLessFromGreater_46 : decode cX0_takeLessFromGreater 46 = .ok (.aload_n 0, 1) := by decide +kernel
theorem dX0_takeLessFromGreater_47 : decode cX0_takeLessFromGreater 47 = .ok (.getfield 27, 3) := by decide +kernel
theorem dX0_takeLessFromGreater_50 : decode cX0_takeLessFromGreater 50 = .ok (.invokevirtual 57, 3) := by decide +kernel
theorem dX0_takeLessFromGreater_53 : decode cX0_takeLessFromGreater 53 = .ok (.return_, 1) := by decide +kernel
theorem dX0_takeCommonOut_0 : decode cX0_takeCommonOut 0 = .ok (.aload_n 0, 1) := by decide +kernel
theorem dX0_takeCommonOut_1 : decode cX0_takeCommonOut 1 = .ok (.getfield 27, 3) := by decide +kernel
theorem dX0_takeCommonOut_4 : decode cX0_takeCommonOut 4 = .ok (.invokevirtual 84, 3) := by decide +kernel
theorem dX0_takeCommonOut_7 : decode cX0_takeCommonOut 7 = .ok (.ifCond .eq 4, 3) := by decide +kernel
theorem dX0_takeCommonOut_10 : decode cX0_takeCommonOut 10 = .ok (.return_, 1) := by decide +kernel
theorem dX0_takeCommonOut_11 : decode cX0_takeCommonOut 11 = .ok (.aload_n 1, 1) := by decide +kernel
theorem dX0_takeCommonOut_12 : decode cX0_takeCommonOut 12 = .ok (.invokevirtual 30, 3) := by decide +kernel
theorem dX0_takeCommonOut_15 : decode cX0_takeCommonOut 15 = .ok (.ifCond .ge 7, 3) := by decide +kernel
theorem dX0_takeCommonOut_18 : decode cX0_takeCommonOut 18 = .ok (.iconst 1, 1) := by decide +kernel
theorem dX0_takeCommonOut_19 : decode cX0_takeCommonOut 19 = .ok (.goto 4, 3) := by decide +kernel
theorem dX0_takeCommonOut_22 : decode cX0_takeCommonOut 22 = .ok (.iconst 0, 1) := by decide +kernel
theorem dX0_takeCommonOut_23 : decode cX0_takeCommonOut 23 = .ok (.istore_n 2, 1) := by decide +kernel
theorem dX0_takeCommonOut_24 : decode cX0_takeCommonOut 24 = .ok (.aload_n 0, 1) := by decide +kernel
theorem dX0_takeCommonOut_25 : decode cX0_takeCommonOut 25 = .ok (.aload_n 1, 1) := by decide +kernel
theorem dX0_takeCommonOut_26 : decode cX0_takeCommonOut 26 = .ok (.aload_n 0, 1) := by decide +kernel
theorem dX0_takeCommonOut_27 : decode cX0_takeCommonOut 27 = .ok (.getfield 27, 3) := by decide +kernel
theorem dX0_takeCommonOut_30 : decode cX0_takeCommonOut 30 = .ok (.invokevirtual 34, 3) := by decide +kernel
theorem dX0_takeCommonOut_33 : decode cX0_takeCommonOut 33 = .ok (.aload_n 1, 1) := by decide +kernel
theorem dX0_takeCommonOut_34 : decode cX0_takeCommonOut 34 = .ok (.aload_n 0, 1) := by decide +kernel
theorem dX0_takeCommonOut_35 : decode cX0_takeCommonOut 35 = .ok (.getfield 12, 3) := by decide +kernel
theorem dX0_takeCommonOut_38 : decode cX0_takeCommonOut 38 = .ok (.invokevirtual 54, 3) := by decide +kernel
theorem dX0_takeCommonOut_41 : decode cX0_takeCommonOut 41 = .ok (.iload_n 2, 1) := by decide +kernel
theorem dX0_takeCommonOut_42 : decode cX0_takeCommonOut 42 = .ok (.ifCond .eq 7, 3) := by decide +kernel
theorem dX0_takeCommonOut_45 : decode cX0_takeCommonOut 45 = .ok (.aload_n 1, 1) := by decide +kernel
theorem dX0_takeCommonOut_46 : decode cX0_takeCommonOut 46 = .ok (.invokevirtual 87, 3) := by decide +kernel
theorem dX0_takeCommonOut_49 : decode cX0_takeCommonOut 49 = .ok (.return_, 1) := by decide +kernel
theorem dX1_init_0 : decode cX1_init 0 = .ok (.aload_n 0, 1) := by decide +kernel
theorem dX1_init_1 : decode cX1_init 1 = .ok (.invokespecial 1, 3) := by decide +kernel
theorem dX1_init_4 : decode cX1_init 4 = .ok (.aload_n 0, 1) := by decide +kernel
theorem dX1_init_5 : decode cX1_init 5 = .ok (.new 7, 3) := by decide +kernel
theorem dX1_init_8 : decode cX1_init 8 = .ok (.dup, 1) := by decide +kernel
theorem dX1_init_9 : decode cX1_init 9 = .ok (.invokespecial 9, 3) := by decide +kernel
theorem dX1_init_12 : decode cX1_init 12 = .ok (.putfield 10, 3) := by decide +kernel
theorem dX1_init_15 : decode cX1_init 15 = .ok (.aload_n 0, 1) := by decide +kernel
theorem dX1_init_16 : decode cX1_init 16 = .ok (.new 7, 3) := by decide +kernel
theorem dX1_init_19 : decode cX1_init 19 = .ok (.dup, 1) := by decide +kernel
theorem dX1_init_20 : decode cX1_init 20 = .ok (.invokespecial 9, 3) := by decide +kernel
theorem dX1_init_23 : decode cX1_init 23 = .ok (.putfield 16, 3) := by decide +kernel
theorem dX1_init_26 : decode cX1_init 26 = .ok (.return_, 1) := by decide +kernel
theorem dX1_putWhole_0 : decode cX1_putWhole 0 = .ok (.aload_n 0, 1) := by decide +kernel
theorem dX1_putWhole_1 : decode cX1_putWhole 1 = .ok (.getfield 10, 3) := by decide +kernel
theorem dX1_putWhole_4 : decode cX1_putWhole 4 = .ok (.lload_n 1, 1) := by decide +kernel
theorem dX1_putWhole_5 : decode cX1_putWhole 5 = .ok (.invokevirtual 19, 3) := by decide +kernel
theorem dX1_putWhole_8 : decode cX1_putWhole 8 = .ok (.aload_n 0, 1) := by decide +kernel
theorem dX1_putWhole_9 : decode cX1_putWhole 9 = .ok (.getfield 16, 3) := by decide +kernel
theorem dX1_putWhole_12 : decode cX1_putWhole 12 = .ok (.lconst 1, 1) := by decide +kernel
theorem dX1_putWhole_13 : decode cX1_putWhole 13 = .ok (.invokevirtual 19, 3) := by decide +kernel
theorem dX1_putWhole_16 : decode cX1_putWhole 16 = .ok (.return_, 1) := by decide +kernel
theorem dX1_putOnWay_0 : decode cX1_putOnWay 0 = .ok (.aload_n 0, 1) := by decide +kernel
theorem dX1_putOnWay_1 : decode cX1_putOnWay 1 = .ok (.getfield 10, 3) := by decide +kernel
theorem dX1_putOnWay_4 : decode cX1_putOnWay 4 = .ok (.lconst 0, 1) := by decide +kernel
theorem dX1_putOnWay_5 : decode cX1_putOnWay 5 = .ok (.invokevirtual 19, 3) := by decide +kernel
theorem dX1_putOnWay_8 : decode cX1_putOnWay 8 = .ok (.aload_n 0, 1) := by decide +kernel
theorem dX1_putOnWay_9 : decode cX1_putOnWay 9 = .ok (.getfield 10, 3) := by decide +kernel
theorem dX1_putOnWay_12 : decode cX1_putOnWay 12 = .ok (.aload 6, 2) := by decide +kernel
theorem dX1_putOnWay_14 : decode cX1_putOnWay 14 = .ok (.lload_n 1, 1) := by decide +kernel
theorem dX1_putOnWay_15 : decode cX1_putOnWay 15 = .ok (.invokevirtual 23, 3) := by decide +kernel
theorem dX1_putOnWay_18 : decode cX1_putOnWay 18 = .ok (.aload_n 0, 1) := by decide +kernel
theorem dX1_putOnWay_19 : decode cX1_putOnWay 19 = .ok (.getfield 10, 3) := by decide +kernel
theorem dX1_putOnWay_22 : decode cX1_putOnWay 22 = .ok (.aload 5, 2) := by decide +kernel
theorem dX1_putOnWay_24 : decode cX1_putOnWay 24 = .ok (.lload_n 3, 1) := by decide +kernel
theorem dX1_putOnWay_25 : decode cX1_putOnWay 25 = .ok (.invokevirtual 23, 3) := by decide +kernel
theorem dX1_putOnWay_28 : decode cX1_putOnWay 28 = .ok (.aload_n 0, 1) := by decide +kernel
theorem dX1_putOnWay_29 : decode cX1_putOnWay 29 = .ok (.getfield 16, 3) := by decide +kernel
theorem dX1_putOnWay_32 : decode cX1_putOnWay 32 = .ok (.aload 6, 2) := by decide +kernel
theorem dX1_putOnWay_34 : decode cX1_putOnWay 34 = .ok (.invokevirtual 27, 3) := by decide +kernel
theorem dX1_putOnWay_37 : decode cX1_putOnWay 37 = .ok (.return_, 1) := by decide +kernel
theorem dX1_reduce_0 : decode cX1_reduce 0 = .ok (.aload_n 1, 1) := by decide +kernel
theorem dX1_reduce_1 : decode cX1_reduce 1 = .ok (.aload_n 0, 1) := by decide +kernel
theorem dX1_reduce_2 : decode cX1_reduce 2 = .ok (.getfield 10, 3) := by decide +kernel
theorem dX1_reduce_5 : decode cX1_reduce 5 = .ok (.aload_n 0, 1) := by decide +kernel
theorem dX1_reduce_6 : decode cX1_reduce 6 = .ok (.getfield 16, 3) := by decide +kernel
theorem dX1_reduce_9 : decode cX1_reduce 9 = .ok (.invokevirtual 31, 3) := by decide +kernel
theorem dX1_reduce_12 : decode cX1_reduce 12 = .ok (.aload_n 1, 1) := by decide +kernel
theorem dX1_reduce_13 : decode cX1_reduce 13 = .ok (.aload_n 0, 1) := by decide +kernel
theorem dX1_reduce_14 : decode cX1_reduce 14 = .ok (.getfield 10, 3) := by decide +kernel
theorem dX1_reduce_17 : decode cX1_reduce 17 = .ok (.invokevirtual 37, 3) := by decide +kernel
theorem dX1_reduce_20 : decode cX1_reduce 20 = .ok (.aload_n 1, 1) := by decide +kernel
theorem dX1_reduce_21 : decode cX1_reduce 21 = .ok (.aload_n 0, 1) := by decide +kernel
theorem dX1_reduce_22 : decode cX1_reduce 22 = .ok (.getfield 16, 3) := by decide +kernel
theorem dX1_reduce_25 : decode cX1_reduce 25 = .ok (.invokevirtual 37, 3) := by decide +kernel
theorem dX1_reduce_28 : decode cX1_reduce 28 = .ok (.return_, 1) := by decide +kernel
theorem dJ9_floorDiv_f86c9_0 : decode cJ9_floorDiv_f86c9 0 = .ok (.lload_n 0, 1) := by decide +kernel
theorem dJ9_floorDiv_f86c9_1 : decode cJ9_floorDiv_f86c9 1 = .ok (.lload_n 2, 1) := by decide +kernel
theorem dJ9_floorDiv_f86c9_2 : decode cJ9_floorDiv_f86c9 2 = .ok (.ldiv, 1) := by decide +kernel
theorem dJ9_floorDiv_f86c9_3 : decode cJ9_floorDiv_f86c9 3 = .ok (.lstore 4, 2) := by decide +kernel
theorem dJ9_floorDiv_f86c9_5 : decode cJ9_floorDiv_f86c9 5 = .ok (.lload_n 0, 1) := by decide +kernel
theorem dJ9_floorDiv_f86c9_6 : decode cJ9_floorDiv_f86c9 6 = .ok (.lload_n 2, 1) := by decide +kernel
theorem dJ9_floorDiv_f86c9_7 : decode cJ9_floorDiv_f86c9 7 = .ok (.lxor, 1) := by decide +kernel
theorem dJ9_floorDiv_f86c9_8 : decode cJ9_floorDiv_f86c9 8 = .ok (.lconst 0, 1) := by decide +kernel
theorem dJ9_floorDiv_f86c9_9 : decode cJ9_floorDiv_f86c9 9 = .ok (.lcmp, 1) := by decide +kernel
theorem dJ9_floorDiv_f86c9_10 : decode cJ9_floorDiv_f86c9 10 = .ok (.ifCond .ge 17, 3) := by decide +kernel
theorem dJ9_floorDiv_f86c9_13 : decode cJ9_floorDiv_f86c9 13 = .ok (.lload 4, 2) := by decide +kernel
theorem dJ9_floorDiv_f86c9_15 : decode cJ9_floorDiv_f86c9 15 = .ok (.lload_n 2, 1) := by decide +kernel
theorem dJ9_floorDiv_f86c9_16 : decode cJ9_floorDiv_f86c9 16 = .ok (.lmul, 1) := by decide +kernel
theorem dJ9_floorDiv_f86c9_17 : decode cJ9_floorDiv_f86c9 17 = .ok (.lload_n 0, 1) := by decide +kernel
theorem dJ9_floorDiv_f86c9_18 : decode cJ9_floorDiv_f86c9 18 = .ok (.lcmp, 1) := by decide +kernel
theorem dJ9_floorDiv_f86c9_19 : decode cJ9_floorDiv_f86c9 19 = .ok (.ifCond .eq 8, 3) := by decide +kernel
theorem dJ9_floorDiv_f86c9_22 : decode cJ9_floorDiv_f86c9 22 = .ok (.lload 4, 2) := by decide +kernel
theorem dJ9_floorDiv_f86c9_24 : decode cJ9_floorDiv_f86c9 24 = .ok (.lconst 1, 1) := by decide +kernel
theorem dJ9_floorDiv_f86c9_25 : decode cJ9_floorDiv_f86c9 25 = .ok (.lsub, 1) := by decide +kernel
theorem dJ9_floorDiv_f86c9_26 : decode cJ9_floorDiv_f86c9 26 = .ok (.lreturn, 1) := by decide +kernel
theorem dJ9_floorDiv_f86c9_27 : decode cJ9_floorDiv_f86c9 27 = .ok (.lload 4, 2) := by decide +kernel
theorem dJ9_floorDiv_f86c9_29 : decode cJ9_floorDiv_f86c9 29 = .ok (.lreturn, 1) := by decide +kernel
theorem dJ9_floorMod_f86c9_0 : decode cJ9_floorMod_f86c9 0 = .ok (.lload_n 0, 1) := by decide +kernel
theorem dJ9_floorMod_f86c9_1 : decode cJ9_floorMod_f86c9 1 = .ok (.lload_n 2, 1) := by decide +kernel
theorem dJ9_floorMod_f86c9_2 : decode cJ9_floorMod_f86c9 2 = .ok (.lrem, 1) := by decide +kernel
theorem dJ9_floorMod_f86c9_3 : decode cJ9_floorMod_f86c9 3 = .ok (.lstore 4, 2) := by decide +kernel
theorem dJ9_floorMod_f86c9_5 : decode cJ9_floorMod_f86c9 5 = .ok (.lload_n 0, 1) := by decide +kernel
theorem dJ9_floorMod_f86c9_6 : decode cJ9_floorMod_f86c9 6 = .ok (.lload_n 2, 1) := by decide +kernel
theorem dJ9_floorMod_f86c9_7 : decode cJ9_floorMod_f86c9 7 = .ok (.lxor, 1) := by decide +kernel
theorem dJ9_floorMod_f86c9_8 : decode cJ9_floorMod_f86c9 8 = .ok (.lconst 0, 1) := by decide +kernel
theorem dJ9_floorMod_f86c9_9 : decode cJ9_floorMod_f86c9 9 = .ok (.lcmp, 1) := by decide +kernel
theorem dJ9_floorMod_f86c9_10 : decode cJ9_floorMod_f86c9 10 = .ok (.ifCond .ge 15, 3) := by decide +kernel
theorem dJ9_floorMod_f86c9_13 : decode cJ9_floorMod_f86c9 13 = .ok (.lload 4, 2) := by decide +kernel
theorem dJ9_floorMod_f86c9_15 : decode cJ9_floorMod_f86c9 15 = .ok (.lconst 0, 1) := by decide +kernel
theorem dJ9_floorMod_f86c9_16 : decode cJ9_floorMod_f86c9 16 = .ok (.lcmp, 1) := by decide +kernel
theorem dJ9_floorMod_f86c9_17 : decode cJ9_floorMod_f86c9 17 = .ok (.ifCond .eq 8, 3) := by decide +kernel
theorem dJ9_floorMod_f86c9_20 : decode cJ9_floorMod_f86c9 20 = .ok (.lload 4, 2) := by decide +kernel
theorem dJ9_floorMod_f86c9_22 : decode cJ9_floorMod_f86c9 22 = .ok (.lload_n 2, 1) := by decide +kernel
theorem dJ9_floorMod_f86c9_23 : decode cJ9_floorMod_f86c9 23 = .ok (.ladd, 1) := by decide +kernel
theorem dJ9_floorMod_f86c9_24 : decode cJ9_floorMod_f86c9 24 = .ok (.lreturn, 1) := by decide +kernel
theorem dJ9_floorMod_f86c9_25 : decode cJ9_floorMod_f86c9 25 = .ok (.lload 4, 2) := by decide +kernel
theorem dJ9_floorMod_f86c9_27 : decode cJ9_floorMod_f86c9 27 = .ok (.lreturn, 1) := by decide +kernel
theorem dJ9_max_f86c9_0 : decode cJ9_max_f86c9 0 = .ok (.lload_n 0, 1) := by decide +kernel
theorem dJ9_max_f86c9_1 : decode cJ9_max_f86c9 1 = .ok (.lload_n 2, 1) := by decide +kernel
theorem dJ9_max_f86c9_2 : decode cJ9_max_f86c9 2 = .ok (.lcmp, 1) := by decide +kernel
theorem dJ9_max_f86c9_3 : decode cJ9_max_f86c9 3 = .ok (.ifCond .lt 7, 3) := by decide +kernel
theorem dJ9_max_f86c9_6 : decode cJ9_max_f86c9 6 = .ok (.lload_n 0, 1) := by decide +kernel
theorem dJ9_max_f86c9_7 : decode cJ9_max_f86c9 7 = .ok (.goto 4, 3) := by decide +kernel
theorem dJ9_max_f86c9_10 : decode cJ9_max_f86c9 10 = .ok (.lload_n 2, 1) := by decide +kernel
theorem dJ9_max_f86c9_11 : decode cJ9_max_f86c9 11 = .ok (.lreturn, 1) := by decide +kernel
theorem dJ9_min_f86c9_0 : decode cJ9_min_f86c9 0 = .ok (.lload_n 0, 1) := by decide +kernel
theorem dJ9_min_f86c9_1 : decode cJ9_min_f86c9 1 = .ok (.lload_n 2, 1) := by decide +kernel
theorem dJ9_min_f86c9_2 : decode cJ9_min_f86c9 2 = .ok (.lcmp, 1) := by decide +kernel
theorem dJ9_min_f86c9_3 : decode cJ9_min_f86c9 3 = .ok (.ifCond .gt 7, 3) := by decide +kernel
theorem dJ9_min_f86c9_6 : decode cJ9_min_f86c9 6 = .ok (.lload_n 0, 1) := by decide +kernel
theorem dJ9_min_f86c9_7 : decode cJ9_min_f86c9 7 = .ok (.goto 4, 3) := by decide +kernel
theorem dJ9_min_f86c9_10 : decode cJ9_min_f86c9 10 = .ok (.lload_n 2, 1) := by decide +kernel
theorem dJ9_min_f86c9_11 : decode cJ9_min_f86c9 11 = .ok (.lreturn, 1) := by decide +kernel
end
section
theorem dX3_init_0 : decode cX3_init 0 = .ok (.aload_n 0, 1) := by decide +kernel
theorem dX3_init_1 : decode cX3_init 1 = .ok (.invokespecial 1, 3) := by decide +kernel
theorem dX3_init_4 : decode cX3_init 4 = .ok (.aload_n 0, 1) := by decide +kernel
theorem dX3_init_5 : decode cX3_init 5 = .ok (.bipush 16, 2) := by decide +kernel
theorem dX3_init_7 : decode cX3_init 7 = .ok (.newarray .boolean, 2) := by decide +kernel
theorem dX3_init_9 : decode cX3_init 9 = .ok (.putfield 9, 3) := by decide +kernel
theorem dX3_init_12 : decode cX3_init 12 = .ok (.aload_n 0, 1) := by decide +kernel
theorem dX3_init_13 : decode cX3_init 13 = .ok (.bipush 16, 2) := by decide +kernel
theorem dX3_init_15 : decode cX3_init 15 = .ok (.newarray .long, 2) := by decide +kernel
theorem dX3_init_17 : decode cX3_init 17 = .ok (.putfield 13, 3) := by decide +kernel
theorem dX3_init_20 : decode cX3_init 20 = .ok (.aload_n 0, 1) := by decide +kernel
theorem dX3_init_21 : decode cX3_init 21 = .ok (.bipush 16, 2) := by decide +kernel
theorem dX3_init_23 : decode cX3_init 23 = .ok (.newarray .long, 2) := by decide +kernel
theorem dX3_init_25 : decode cX3_init 25 = .ok (.putfield 17, 3) := by decide +kernel
theorem dX3_init_28 : decode cX3_init 28 = .ok (.aload_n 0, 1) := by decide +kernel
theorem dX3_init_29 : decode cX3_init 29 = .ok (.bipush 16, 2) := by decide +kernel
theorem dX3_init_31 : decode cX3_init 31 = .ok (.newarray .long, 2) := by decide +kernel
theorem dX3_init_33 : decode cX3_init 33 = .ok (.putfield 20, 3) := by decide +kernel
theorem dX3_init_36 : decode cX3_init 36 = .ok (.aload_n 0, 1) := by decide +kernel
theorem dX3_init_37 : decode cX3_init 37 = .ok (.bipush 16, 2) := by decide +kernel
theorem dX3_init_39 : decode cX3_init 39 = .ok (.newarray .long, 2) := by decide +kernel
theorem dX3_init_41 : decode cX3_init 41 = .ok (.putfield 23, 3) := by decide +kernel
theorem dX3_init_44 : decode cX3_init 44 = .ok (.aload_n 0, 1) := by decide +kernel
theorem dX3_init_45 : decode cX3_init 45 = .ok (.bipush 64, 2) := by decide +kernel
theorem dX3_init_47 : decode cX3_init 47 = .ok (.newarray .long, 2) := by decide +kernel
theorem dX3_init_49 : decode cX3_init 49 = .ok (.putfield 26, 3) := by decide +kernel
theorem dX3_init_52 : decode cX3_init 52 = .ok (.aload_n 0, 1) := by decide +kernel
theorem dX3_init_53 : decode cX3_init 53 = .ok (.bipush 64, 2) := by decide +kernel
theorem dX3_init_55 : decode cX3_init 55 = .ok (.newarray .long, 2) := by decide +kernel
theorem dX3_init_57 : decode cX3_init 57 = .ok (.putfield 29, 3) := by decide +kernel
theorem dX3_init_60 : decode cX3_init 60 = .ok (.aload_n 0, 1) := by decide +kernel
theorem dX3_init_61 : decode cX3_init 61 = .ok (.new 32, 3) := by decide +kernel
theorem dX3_init_64 : decode cX3_init 64 = .ok (.dup, 1) := by decide +kernel
theorem dX3_init_65 : decode cX3_init 65 = .ok (.invokespecial 34, 3) := by decide +kernel
theorem dX3_init_68 : decode cX3_init 68 = .ok (.putfield 35, 3) := by decide +kernel
theorem dX3_init_71 : decode cX3_init 71 = .ok (.aload_n 0, 1) := by decide +kernel
theorem dX3_init_72 : decode cX3_init 72 = .ok (.new 32, 3) := by decide +kernel
theorem dX3_init_75 : decode cX3_init 75 = .ok (.dup, 1) := by decide +kernel
theorem dX3_init_76 : decode cX3_init 76 = .ok (.invokespecial 34, 3) := by decide +kernel
theorem dX3_init_79 : decode cX3_init 79 = .ok (.putfield 39, 3) := by decide +kernel
theorem dX3_init_82 : decode cX3_init 82 = .ok (.aload_n 0, 1) := by decide +kernel
theorem dX3_init_83 : decode cX3_init 83 = .ok (.new 42, 3) := by decide +kernel
theorem dX3_init_86 : decode cX3_init 86 = .ok (.dup, 1) := by decide +kernel
theorem dX3_init_87 : decode cX3_init 87 = .ok (.invokespecial 44, 3) := by decide +kernel
theorem dX3_init_90 : decode cX3_init 90 = .ok (.putfield 45, 3) := by decide +kernel
theorem dX3_init_93 : decode cX3_init 93 = .ok (.aload_n 0, 1) := by decide +kernel
theorem dX3_init_94 : decode cX3_init 94 = .ok (.new 49, 3) := by decide +kernel
theorem dX3_init_97 : decode cX3_init 97 = .ok (.dup, 1) := by decide +kernel
theorem dX3_init_98 : decode cX3_init 98 = .ok (.invokespecial 51, 3) := by decide +kernel
theorem dX3_init_101 : decode cX3_init 101 = .ok (.putfield 52, 3) := by decide +kernel
theorem dX3_init_104 : decode cX3_init 104 = .ok (.aload_n 0, 1) := by decide +kernel
theorem dX3_init_105 : decode cX3_init 105 = .ok (.new 49, 3) := by decide +kernel
theorem dX3_init_108 : decode cX3_init 108 = .ok (.dup, 1) := by decide +kernel
theorem dX3_init_109 : decode cX3_init 109 = .ok (.invokespecial 51, 3) := by decide +kernel
theorem dX3_init_112 : decode cX3_init 112 = .ok (.putfield 56, 3) := by decide +kernel
theorem dX3_init_115 : decode cX3_init 115 = .ok (.aload_n 0, 1) := by decide +kernel
theorem dX3_init_116 : decode cX3_init 116 = .ok (.new 49, 3) := by decide +kernel
theorem dX3_init_119 : decode cX3_init 119 = .ok (.dup, 1) := by decide +kernel
theorem dX3_init_120 : decode cX3_init 120 = .ok (.invokespecial 51, 3) := by decide +kernel
theorem dX3_init_123 : decode cX3_init 123 = .ok (.putfield 59, 3) := by decide +kernel
theorem dX3_init_126 : decode cX3_init 126 = .ok (.aload_n 0, 1) := by decide +kernel
theorem dX3_init_127 : decode cX3_init 127 = .ok (.iconst 0, 1) := by decide +kernel
theorem dX3_init_128 : decode cX3_init 128 = .ok (.putfield 62, 3) := by decide +kernel
theorem dX3_init_131 : decode cX3_init 131 = .ok (.aload_n 0, 1) := by decide +kernel
theorem dX3_init_132 : decode cX3_init 132 = .ok (.iconst 0, 1) := by decide +kernel
theorem dX3_init_133 : decode cX3_init 133 = .ok (.putfield 66, 3) := by decide +kernel
theorem dX3_init_136 : decode cX3_init 136 = .ok (.return_, 1) := by decide +kernel
theorem dX3_turn_0 : decode cX3_turn 0 = .ok (.lload_n 1, 1) := by decide +kernel
theorem dX3_turn_1 : decode cX3_turn 1 = .ok (.lload_n 3, 1) := by decide +kernel
theorem dX3_turn_2 : decode cX3_turn 2 = .ok (.invokestatic 70, 3) := by decide +kernel
theorem dX3_turn_5 : decode cX3_turn 5 = .ok (.ifCond .eq 23, 3) := by decide +kernel
theorem dX3_turn_8 : decode cX3_turn 8 = .ok (.lload 5, 2) := by decide +kernel
theorem dX3_turn_10 : decode cX3_turn 10 = .ok (.lload 7, 2) := by decide +kernel
theorem dX3_turn_12 : decode cX3_turn 12 = .ok (.invokestatic 70, 3) := by decide +kernel
theorem dX3_turn_15 : decode cX3_turn 15 = .ok (.ifCond .eq 13, 3) := by decide +kernel
theorem dX3_turn_18 : decode cX3_turn 18 = .ok (.lload 9, 2) := by decide +kernel
theorem dX3_turn_20 : decode cX3_turn 20 = .ok (.lload 11, 2) := by decide +kernel
theorem dX3_turn_22 : decode cX3_turn 22 = .ok (.invokestatic 70, 3) := by decide +kernel
theorem dX3_turn_25 : decode cX3_turn 25 = .ok (.ifCond .ne 6, 3) := by decide +kernel
theorem dX3_turn_28 : decode cX3_turn 28 = .ok (.bipush (-2), 2) := by decide +kernel
theorem dX3_turn_30 : decode cX3_turn 30 = .ok (.ireturn, 1) := by decide +kernel
theorem dX3_turn_31 : decode cX3_turn 31 = .ok (.aload_n 0, 1) := by decide +kernel
theorem dX3_turn_32 : decode cX3_turn 32 = .ok (.lload_n 1, 1) := by decide +kernel
theorem dX3_turn_33 : decode cX3_turn 33 = .ok (.lload_n 3, 1) := by decide +kernel
theorem dX3_turn_34 : decode cX3_turn 34 = .ok (.lload 5, 2) := by decide +kernel
theorem dX3_turn_36 : decode cX3_turn 36 = .ok (.lload 7, 2) := by decide +kernel
theorem dX3_turn_38 : decode cX3_turn 38 = .ok (.lload 9, 2) := by decide +kernel
theorem dX3_turn_40 : decode cX3_turn 40 = .ok (.lload 11, 2) := by decide +kernel
theorem dX3_turn_42 : decode cX3_turn 42 = .ok (.invokevirtual 74, 3) := by decide +kernel
theorem dX3_turn_45 : decode cX3_turn 45 = .ok (.ireturn, 1) := by decide +kernel
theorem dX3_line_0 : decode cX3_line 0 = .ok (.iload_n 1, 1) := by decide +kernel
theorem dX3_line_1 : decode cX3_line 1 = .ok (.ifCond .lt 28, 3) := by decide +kernel
theorem dX3_line_4 : decode cX3_line 4 = .ok (.iload_n 1, 1) := by decide +kernel
theorem dX3_line_5 : decode cX3_line 5 = .ok (.bipush 16, 2) := by decide +kernel
theorem dX3_line_7 : decode cX3_line 7 = .ok (.if_icmp .ge 22, 3) := by decide +kernel
theorem dX3_line_10 : decode cX3_line 10 = .ok (.lload_n 2, 1) := by decide +kernel
theorem dX3_line_11 : decode cX3_line 11 = .ok (.lload 4, 2) := by decide +kernel
theorem dX3_line_13 : decode cX3_line 13 = .ok (.invokestatic 70, 3) := by decide +kernel
theorem dX3_line_16 : decode cX3_line 16 = .ok (.ifCond .eq 13, 3) := by decide +kernel
theorem dX3_line_19 : decode cX3_line 19 = .ok (.lload 6, 2) := by decide +kernel
theorem dX3_line_21 : decode cX3_line 21 = .ok (.lload 8, 2) := by decide +kernel
theorem dX3_line_23 : decode cX3_line 23 = .ok (.invokestatic 70, 3) := by decide +kernel
theorem dX3_line_26 : decode cX3_line 26 = .ok (.ifCond .ne 5, 3) := by decide +kernel
theorem dX3_line_29 : decode cX3_line 29 = .ok (.iconst 0, 1) := by decide +kernel
theorem dX3_line_30 : decode cX3_line 30 = .ok (.ireturn, 1) := by decide +kernel
theorem dX3_line_31 : decode cX3_line 31 = .ok (.lload_n 2, 1) := by decide +kernel
theorem dX3_line_32 : decode cX3_line 32 = .ok (.lload 6, 2) := by decide +kernel
theorem dX3_line_34 : decode cX3_line 34 = .ok (.lcmp, 1) := by decide +kernel
theorem dX3_line_35 : decode cX3_line 35 = .ok (.ifCond .ne 13, 3) := by decide +kernel
theorem dX3_line_38 : decode cX3_line 38 = .ok (.lload 4, 2) := by decide +kernel
theorem dX3_line_40 : decode cX3_line 40 = .ok (.lload 8, 2) := by decide +kernel
theorem dX3_line_42 : decode cX3_line 42 = .ok (.lcmp, 1) := by decide +kernel
theorem dX3_line_43 : decode cX3_line 43 = .ok (.ifCond .ne 5, 3) := by decide +kernel
theorem dX3_line_46 : decode cX3_line 46 = .ok (.iconst 0, 1) := by decide +kernel
theorem dX3_line_47 : decode cX3_line 47 = .ok (.ireturn, 1) := by decide +kernel
theorem dX3_line_48 : decode cX3_line 48 = .ok (.aload_n 0, 1) := by decide +kernel
theorem dX3_line_49 : decode cX3_line 49 = .ok (.getfield 9, 3) := by decide +kernel
theorem dX3_line_52 : decode cX3_line 52 = .ok (.iload_n 1, 1) := by decide +kernel
theorem dX3_line_53 : decode cX3_line 53 = .ok (.iconst 1, 1) := by decide +kernel
theorem dX3_line_54 : decode cX3_line 54 = .ok (.bastore, 1) := by decide +kernel
theorem dX3_line_55 : decode cX3_line 55 = .ok (.aload_n 0, 1) := by decide +kernel
theorem dX3_line_56 : decode cX3_line 56 = .ok (.getfield 13, 3) := by decide +kernel
theorem dX3_line_59 : decode cX3_line 59 = .ok (.iload_n 1, 1) := by decide +kernel
theorem dX3_line_60 : decode cX3_line 60 = .ok (.lload_n 2, 1) := by decide +kernel
theorem dX3_line_61 : decode cX3_line 61 = .ok (.lastore, 1) := by decide +kernel
theorem dX3_line_62 : decode cX3_line 62 = .ok (.aload_n 0, 1) := by decide +kernel
theorem dX3_line_63 : decode cX3_line 63 = .ok (.getfield 17, 3) := by decide +kernel
theorem dX3_line_66 : decode cX3_line 66 = .ok (.iload_n 1, 1) := by decide +kernel
theorem dX3_line_67 : decode cX3_line 67 = .ok (.lload 4, 2) := by decide +kernel
theorem dX3_line_69 : decode cX3_line 69 = .ok (.lastore, 1) := by decide +kernel
theorem dX3_line_70 : decode cX3_line 70 = .ok (.aload_n 0, 1) := by decide +kernel
theorem dX3_line_71 : decode cX3_line 71 = .ok (.getfield 20, 3) := by decide +kernel
theorem dX3_line_74 : decode cX3_line 74 = .ok (.iload_n 1, 1) := by decide +kernel
theorem dX3_line_75 : decode cX3_line 75 = .ok (.lload 6, 2) := by decide +kernel
theorem dX3_line_77 : decode cX3_line 77 = .ok (.lload_n 2, 1) := by decide +kernel
theorem dX3_line_78 : decode cX3_line 78 = .ok (.lsub, 1) := by decide +kernel
theorem dX3_line_79 : decode cX3_line 79 = .ok (.lastore, 1) := by decide +kernel
theorem dX3_line_80 : decode cX3_line 80 = .ok (.aload_n 0, 1) := by decide +kernel
theorem dX3_line_81 : decode cX3_line 81 = .ok (.getfield 23, 3) := by decide +kernel
theorem dX3_line_84 : decode cX3_line 84 = .ok (.iload_n 1, 1) := by decide +kernel
theorem dX3_line_85 : decode cX3_line 85 = .ok (.lload 8, 2) := by decide +kernel
theorem dX3_line_87 : decode cX3_line 87 = .ok (.lload 4, 2) := by decide +kernel
theorem dX3_line_89 : decode cX3_line 89 = .ok (.lsub, 1) := by decide +kernel
theorem dX3_line_90 : decode cX3_line 90 = .ok (.lastore, 1) := by decide +kernel
theorem dX3_line_91 : decode cX3_line 91 = .ok (.iconst 1, 1) := by decide +kernel
theorem dX3_line_92 : decode cX3_line 92 = .ok (.ireturn, 1) := by decide +kernel
theorem dX3_cross_0 : decode cX3_cross 0 = .ok (.aload_n 0, 1) := by decide +kernel
theorem dX3_cross_1 : decode cX3_cross 1 = .ok (.iload_n 1, 1) := by decide +kernel
theorem dX3_cross_2 : decode cX3_cross 2 = .ok (.invokevirtual 78, 3) := by decide +kernel
theorem dX3_cross_5 : decode cX3_cross 5 = .ok (.ifCond .eq 11, 3) := by decide +kernel
theorem dX3_cross_8 : decode cX3_cross 8 = .ok (.aload_n 0, 1) := by decide +kernel
theorem dX3_cross_9 : decode cX3_cross 9 = .ok (.iload_n 2, 1) := by decide +kernel
theorem dX3_cross_10 : decode cX3_cross 10 = .ok (.invokevirtual 78, 3) := by decide +kernel
theorem dX3_cross_13 : decode cX3_cross 13 = .ok (.ifCond .ne 5, 3) := by decide +kernel
theorem dX3_cross_16 : decode cX3_cross 16 = .ok (.iconst (-1), 1) := by decide +kernel
theorem dX3_cross_17 : decode cX3_cross 17 = .ok (.ireturn, 1) := by decide +kernel
theorem dX3_cross_18 : decode cX3_cross 18 = .ok (.aload_n 0, 1) := by decide +kernel
theorem dX3_cross_19 : decode cX3_cross 19 = .ok (.getfield 52, 3) := by decide +kernel
theorem dX3_cross_22 : decode cX3_cross 22 = .ok (.aload_n 0, 1) := by decide +kernel
theorem dX3_cross_23 : decode cX3_cross 23 = .ok (.getfield 20, 3) := by decide +kernel
theorem dX3_cross_26 : decode cX3_cross 26 = .ok (.iload_n 1, 1) := by decide +kernel
theorem dX3_cross_27 : decode cX3_cross 27 = .ok (.laload, 1) := by decide +kernel
theorem dX3_cross_28 : decode cX3_cross 28 = .ok (.aload_n 0, 1) := by decide +kernel
theorem dX3_cross_29 : decode cX3_cross 29 = .ok (.getfield 23, 3) := by decide +kernel
theorem dX3_cross_32 : decode cX3_cross 32 = .ok (.iload_n 1, 1) := by decide +kernel
theorem dX3_cross_33 : decode cX3_cross 33 = .ok (.laload, 1) := by decide +kernel
theorem dX3_cross_34 : decode cX3_cross 34 = .ok (.aload_n 0, 1) := by decide +kernel
theorem dX3_cross_35 : decode cX3_cross 35 = .ok (.getfield 20, 3) := by decide +kernel
theorem dX3_cross_38 : decode cX3_cross 38 = .ok (.iload_n 2, 1) := by decide +kernel
theorem dX3_cross_39 : decode cX3_cross 39 = .ok (.laload, 1) := by decide +kernel
theorem dX3_cross_40 : decode cX3_cross 40 = .ok (.aload_n 0, 1) := by decide +kernel
theorem dX3_cross_41 : decode cX3_cross 41 = .ok (.getfield 23, 3) := by decide +kernel
theorem dX3_cross_44 : decode cX3_cross 44 = .ok (.iload_n 2, 1) := by decide +kernel
theorem dX3_cross_45 : decode cX3_cross 45 = .ok (.laload, 1) := by decide +kernel
theorem dX3_cross_46 : decode cX3_cross 46 = .ok (.invokevirtual 82, 3) := by decide +kernel
theorem dX3_cross_49 : decode cX3_cross 49 = .ok (.aload_n 0, 1) := by decide +kernel
theorem dX3_cross_50 : decode cX3_cross 50 = .ok (.getfield 52, 3) := by decide +kernel
theorem dX3_cross_53 : decode cX3_cross 53 = .ok (.invokevirtual 86, 3) := by decide +kernel
theorem dX3_cross_56 : decode cX3_cross 56 = .ok (.ifCond .ne 12, 3) := by decide +kernel
theorem dX3_cross_59 : decode cX3_cross 59 = .ok (.aload_n 0, 1) := by decide +kernel
theorem dX3_cross_60 : decode cX3_cross 60 = .ok (.iload_n 1, 1) := by decide +kernel
theorem dX3_cross_61 : decode cX3_cross 61 = .ok (.iload_n 2, 1) := by decide +kernel
theorem dX3_cross_62 : decode cX3_cross 62 = .ok (.invokevirtual 90, 3) := by decide +kernel
theorem dX3_cross_65 : decode cX3_cross 65 = .ok (.goto 9, 3) := by decide +kernel
theorem dX3_cross_68 : decode cX3_cross 68 = .ok (.aload_n 0, 1) := by decide +kernel
theorem dX3_cross_69 : decode cX3_cross 69 = .ok (.iload_n 1, 1) := by decide +kernel
theorem dX3_cross_70 : decode cX3_cross 70 = .ok (.iload_n 2, 1) := by decide +kernel
theorem dX3_cross_71 : decode cX3_cross 71 = .ok (.invokevirtual 94, 3) := by decide +kernel
theorem dX3_cross_74 : decode cX3_cross 74 = .ok (.istore_n 3, 1) := by decide +kernel
theorem dX3_cross_75 : decode cX3_cross 75 = .ok (.aload_n 0, 1) := by decide +kernel
theorem dX3_cross_76 : decode cX3_cross 76 = .ok (.iload_n 3, 1) := by decide +kernel
theorem dX3_cross_77 : decode cX3_cross 77 = .ok (.iconst 1, 1) := by decide +kernel
theorem dX3_cross_78 : decode cX3_cross 78 = .ok (.if_icmp .ne 7, 3) := by decide +kernel
theorem dX3_cross_81 : decode cX3_cross 81 = .ok (.iconst 1, 1) := by decide +kernel
theorem dX3_cross_82 : decode cX3_cross 82 = .ok (.goto 4, 3) := by decide +kernel
theorem dX3_cross_85 : decode cX3_cross 85 = .ok (.iconst 0, 1) := by decide +kernel
theorem dX3_cross_86 : decode cX3_cross 86 = .ok (.putfield 66, 3) := by decide +kernel
theorem dX3_cross_89 : decode cX3_cross 89 = .ok (.iload_n 3, 1) := by decide +kernel
theorem dX3_cross_90 : decode cX3_cross 90 = .ok (.ireturn, 1) := by decide +kernel
theorem dX3_at_0 : decode cX3_at 0 = .ok (.aload_n 0, 1) := by decide +kernel
theorem dX3_at_1 : decode cX3_at 1 = .ok (.iload_n 1, 1) := by decide +kernel
theorem dX3_at_2 : decode cX3_at 2 = .ok (.invokevirtual 97, 3) := by decide +kernel
theorem dX3_at_5 : decode cX3_at 5 = .ok (.ifCond .ne 7, 3) := by decide +kernel
theorem dX3_at_8 : decode cX3_at 8 = .ok (.ldc2_w 100, 3) := by decide +kernel
theorem dX3_at_11 : decode cX3_at 11 = .ok (.lreturn, 1) := by decide +kernel
theorem dX3_at_12 : decode cX3_at 12 = .ok (.iload_n 1, 1) := by decide +kernel
theorem dX3_at_13 : decode cX3_at 13 = .ok (.ifCond .ne 10, 3) := by decide +kernel
theorem dX3_at_16 : decode cX3_at 16 = .ok (.aload_n 0, 1) := by decide +kernel
theorem dX3_at_17 : decode cX3_at 17 = .ok (.getfield 35, 3) := by decide +kernel
theorem dX3_at_20 : decode cX3_at 20 = .ok (.goto 7, 3) := by decide +kernel
theorem dX3_at_23 : decode cX3_at 23 = .ok (.aload_n 0, 1) := by decide +kernel
theorem dX3_at_24 : decode cX3_at 24 = .ok (.getfield 39, 3) := by decide +kernel
theorem dX3_at_27 : decode cX3_at 27 = .ok (.astore_n 2, 1) := by decide +kernel
theorem dX3_at_28 : decode cX3_at 28 = .ok (.aload_n 0, 1) := by decide +kernel
theorem dX3_at_29 : decode cX3_at 29 = .ok (.getfield 45, 3) := by decide +kernel
theorem dX3_at_32 : decode cX3_at 32 = .ok (.aload_n 2, 1) := by decide +kernel
theorem dX3_at_33 : decode cX3_at 33 = .ok (.getfield 102, 3) := by decide +kernel
theorem dX3_at_36 : decode cX3_at 36 = .ok (.aload_n 2, 1) := by decide +kernel
theorem dX3_at_37 : decode cX3_at 37 = .ok (.getfield 105, 3) := by decide +kernel
theorem dX3_at_40 : decode cX3_at 40 = .ok (.iconst 4, 1) := by decide +kernel
theorem dX3_at_41 : decode cX3_at 41 = .ok (.invokevirtual 108, 3) := by decide +kernel
theorem dX3_at_44 : decode cX3_at 44 = .ok (.lreturn, 1) := by decide +kernel
theorem dX3_exact_0 : decode cX3_exact 0 = .ok (.aload_n 0, 1) := by decide +kernel
theorem dX3_exact_1 : decode cX3_exact 1 = .ok (.iload_n 1, 1) := by decide +kernel
theorem dX3_exact_2 : decode cX3_exact 2 = .ok (.invokevirtual 97, 3) := by decide +kernel
theorem dX3_exact_5 : decode cX3_exact 5 = .ok (.ifCond .eq 12, 3) := by decide +kernel
theorem dX3_exact_8 : decode cX3_exact 8 = .ok (.iload_n 2, 1) := by decide +kernel
theorem dX3_exact_9 : decode cX3_exact 9 = .ok (.ifCond .lt 8, 3) := by decide +kernel
theorem dX3_exact_12 : decode cX3_exact 12 = .ok (.iload_n 2, 1) := by decide +kernel
theorem dX3_exact_13 : decode cX3_exact 13 = .ok (.iconst 1, 1) := by decide +kernel
theorem dX3_exact_14 : decode cX3_exact 14 = .ok (.if_icmp .le 7, 3) := by decide +kernel
theorem dX3_exact_17 : decode cX3_exact 17 = .ok (.ldc2_w 100, 3) := by decide +kernel
theorem dX3_exact_20 : decode cX3_exact 20 = .ok (.lreturn, 1) := by decide +kernel
theorem dX3_exact_21 : decode cX3_exact 21 = .ok (.iload_n 1, 1) := by decide +kernel
theorem dX3_exact_22 : decode cX3_exact 22 = .ok (.ifCond .ne 10, 3) := by decide +kernel
theorem dX3_exact_25 : decode cX3_exact 25 = .ok (.aload_n 0, 1) := by decide +kernel
theorem dX3_exact_26 : decode cX3_exact 26 = .ok (.getfield 35, 3) := by decide +kernel
theorem dX3_exact_29 : decode cX3_exact 29 = .ok (.goto 7, 3) := by decide +kernel
theorem dX3_exact_32 : decode cX3_exact 32 = .ok (.aload_n 0, 1) := by decide +kernel
theorem dX3_exact_33 : decode cX3_exact 33 = .ok (.getfield 39, 3) := by decide +kernel
theorem dX3_exact_36 : decode cX3_exact 36 = .ok (.astore 4, 2) := by decide +kernel
theorem dX3_exact_38 : decode cX3_exact 38 = .ok (.iload_n 2, 1) := by decide +kernel
theorem dX3_exact_39 : decode cX3_exact 39 = .ok (.ifCond .ne 11, 3) := by decide +kernel
theorem dX3_exact_42 : decode cX3_exact 42 = .ok (.aload 4, 2) := by decide +kernel
theorem dX3_exact_44 : decode cX3_exact 44 = .ok (.getfield 102, 3) := by decide +kernel
theorem dX3_exact_47 : decode cX3_exact 47 = .ok (.goto 8, 3) := by decide +kernel
theorem dX3_exact_50 : decode cX3_exact 50 = .ok (.aload 4, 2) := by decide +kernel
theorem dX3_exact_52 : decode cX3_exact 52 = .ok (.getfield 105, 3) := by decide +kernel
theorem dX3_exact_55 : decode cX3_exact 55 = .ok (.iload_n 3, 1) := by decide +kernel
theorem dX3_exact_56 : decode cX3_exact 56 = .ok (.invokestatic 112, 3) := by decide +kernel
theorem dX3_exact_59 : decode cX3_exact 59 = .ok (.lreturn, 1) := by decide +kernel
theorem dX3_corner_0 : decode cX3_corner 0 = .ok (.aload_n 0, 1) := by decide +kernel
theorem dX3_corner_1 : decode cX3_corner 1 = .ok (.getfield 62, 3) := by decide +kernel
theorem dX3_corner_4 : decode cX3_corner 4 = .ok (.bipush 64, 2) := by decide +kernel
theorem dX3_corner_6 : decode cX3_corner 6 = .ok (.if_icmp .ge 11, 3) := by decide +kernel
theorem dX3_corner_9 : decode cX3_corner 9 = .ok (.lload_n 1, 1) := by decide +kernel
theorem dX3_corner_10 : decode cX3_corner 10 = .ok (.lload_n 3, 1) := by decide +kernel
theorem dX3_corner_11 : decode cX3_corner 11 = .ok (.invokestatic 70, 3) := by decide +kernel
theorem dX3_corner_14 : decode cX3_corner 14 = .ok (.ifCond .ne 5, 3) := by decide +kernel
theorem dX3_corner_17 : decode cX3_corner 17 = .ok (.iconst 0, 1) := by decide +kernel
theorem dX3_corner_18 : decode cX3_corner 18 = .ok (.ireturn, 1) := by decide +kernel
theorem dX3_corner_19 : decode cX3_corner 19 = .ok (.aload_n 0, 1) := by decide +kernel
theorem dX3_corner_20 : decode cX3_corner 20 = .ok (.getfield 26, 3) := by decide +kernel
theorem dX3_corner_23 : decode cX3_corner 23 = .ok (.aload_n 0, 1) := by decide +kernel
theorem dX3_corner_24 : decode cX3_corner 24 = .ok (.getfield 62, 3) := by decide +kernel
theorem dX3_corner_27 : decode cX3_corner 27 = .ok (.lload_n 1, 1) := by decide +kernel
theorem dX3_corner_28 : decode cX3_corner 28 = .ok (.lastore, 1) := by decide +kernel
theorem dX3_corner_29 : decode cX3_corner 29 = .ok (.aload_n 0, 1) := by decide +kernel
theorem dX3_corner_30 : decode cX3_corner 30 = .ok (.getfield 29, 3) := by decide +kernel
theorem dX3_corner_33 : decode cX3_corner 33 = .ok (.aload_n 0, 1) := by decide +kernel
theorem dX3_corner_34 : decode cX3_corner 34 = .ok (.getfield 62, 3) := by decide +kernel
theorem dX3_corner_37 : decode cX3_corner 37 = .ok (.lload_n 3, 1) := by decide +kernel
theorem dX3_corner_38 : decode cX3_corner 38 = .ok (.lastore, 1) := by decide +kernel
theorem dX3_corner_39 : decode cX3_corner 39 = .ok (.aload_n 0, 1) := by decide +kernel
theorem dX3_corner_40 : decode cX3_corner 40 = .ok (.dup, 1) := by decide +kernel
theorem dX3_corner_41 : decode cX3_corner 41 = .ok (.getfield 62, 3) := by decide +kernel
theorem dX3_corner_44 : decode cX3_corner 44 = .ok (.iconst 1, 1) := by decide +kernel
theorem dX3_corner_45 : decode cX3_corner 45 = .ok (.iadd, 1) := by decide +kernel
theorem dX3_corner_46 : decode cX3_corner 46 = .ok (.putfield 62, 3) := by decide +kernel
theorem dX3_corner_49 : decode cX3_corner 49 = .ok (.iconst 1, 1) := by decide +kernel
theorem dX3_corner_50 : decode cX3_corner 50 = .ok (.ireturn, 1) := by decide +kernel
theorem dX3_area2_0 : decode cX3_area2 0 = .ok (.aload_n 0, 1) := by decide +kernel
theorem dX3_area2_1 : decode cX3_area2 1 = .ok (.getfield 52, 3) := by decide +kernel
theorem dX3_area2_4 : decode cX3_area2 4 = .ok (.lconst 0, 1) := by decide +kernel
theorem dX3_area2_5 : decode cX3_area2 5 = .ok (.invokevirtual 116, 3) := by decide +kernel
theorem dX3_area2_8 : decode cX3_area2 8 = .ok (.iconst 0, 1) := by decide +kernel
theorem dX3_area2_9 : decode cX3_area2 9 = .ok (.istore_n 2, 1) := by decide +kernel
theorem dX3_area2_10 : decode cX3_area2 10 = .ok (.iload_n 2, 1) := by decide +kernel
theorem dX3_area2_11 : decode cX3_area2 11 = .ok (.aload_n 0, 1) := by decide +kernel
theorem dX3_area2_12 : decode cX3_area2 12 = .ok (.getfield 62, 3) := by decide +kernel
theorem dX3_area2_15 : decode cX3_area2 15 = .ok (.if_icmp .ge 46, 3) := by decide +kernel
theorem dX3_area2_18 : decode cX3_area2 18 = .ok (.aload_n 0, 1) := by decide +kernel
theorem dX3_area2_19 : decode cX3_area2 19 = .ok (.iload_n 2, 1) := by decide +kernel
theorem dX3_area2_20 : decode cX3_area2 20 = .ok (.invokevirtual 120, 3) := by decide +kernel
theorem dX3_area2_23 : decode cX3_area2 23 = .ok (.istore_n 3, 1) := by decide +kernel
theorem dX3_area2_24 : decode cX3_area2 24 = .ok (.aload_n 0, 1) := by decide +kernel
theorem dX3_area2_25 : decode cX3_area2 25 = .ok (.getfield 52, 3) := by decide +kernel
theorem dX3_area2_28 : decode cX3_area2 28 = .ok (.aload_n 0, 1) := by decide +kernel
theorem dX3_area2_29 : decode cX3_area2 29 = .ok (.getfield 26, 3) := by decide +kernel
theorem dX3_area2_32 : decode cX3_area2 32 = .ok (.iload_n 2, 1) := by decide +kernel
theorem dX3_area2_33 : decode cX3_area2 33 = .ok (.laload, 1) := by decide +kernel
theorem dX3_area2_34 : decode cX3_area2 34 = .ok (.aload_n 0, 1) := by decide +kernel
theorem dX3_area2_35 : decode cX3_area2 35 = .ok (.getfield 29, 3) := by decide +kernel
theorem dX3_area2_38 : decode cX3_area2 38 = .ok (.iload_n 2, 1) := by decide +kernel
theorem dX3_area2_39 : decode cX3_area2 39 = .ok (.laload, 1) := by decide +kernel
theorem dX3_area2_40 : decode cX3_area2 40 = .ok (.aload_n 0, 1) := by decide +kernel
theorem dX3_area2_41 : decode cX3_area2 41 = .ok (.getfield 26, 3) := by decide +kernel
theorem dX3_area2_44 : decode cX3_area2 44 = .ok (.iload_n 3, 1) := by decide +kernel
theorem dX3_area2_45 : decode cX3_area2 45 = .ok (.laload, 1) := by decide +kernel
theorem dX3_area2_46 : decode cX3_area2 46 = .ok (.aload_n 0, 1) := by decide +kernel
theorem dX3_area2_47 : decode cX3_area2 47 = .ok (.getfield 29, 3) := by decide +kernel
theorem dX3_area2_50 : decode cX3_area2 50 = .ok (.iload_n 3, 1) := by decide +kernel
theorem dX3_area2_51 : decode cX3_area2 51 = .ok (.laload, 1) := by decide +kernel
theorem dX3_area2_52 : decode cX3_area2 52 = .ok (.invokevirtual 124, 3) := by decide +kernel
theorem dX3_area2_55 : decode cX3_area2 55 = .ok (.iinc 2 1, 3) := by decide +kernel
theorem dX3_area2_58 : decode cX3_area2 58 = .ok (.goto (-48), 3) := by decide +kernel
theorem dX3_area2_61 : decode cX3_area2 61 = .ok (.aload_n 0, 1) := by decide +kernel
theorem dX3_area2_62 : decode cX3_area2 62 = .ok (.getfield 52, 3) := by decide +kernel
theorem dX3_area2_65 : decode cX3_area2 65 = .ok (.iload_n 1, 1) := by decide +kernel
theorem dX3_area2_66 : decode cX3_area2 66 = .ok (.invokestatic 112, 3) := by decide +kernel
theorem dX3_area2_69 : decode cX3_area2 69 = .ok (.lreturn, 1) := by decide +kernel
theorem dX3_inside_0 : decode cX3_inside 0 = .ok (.aload_n 0, 1) := by decide +kernel
theorem dX3_inside_1 : decode cX3_inside 1 = .ok (.getfield 62, 3) := by decide +kernel
theorem dX3_inside_4 : decode cX3_inside 4 = .ok (.iconst 3, 1) := by decide +kernel
theorem dX3_inside_5 : decode cX3_inside 5 = .ok (.if_icmp .lt 11, 3) := by decide +kernel
theorem dX3_inside_8 : decode cX3_inside 8 = .ok (.lload_n 1, 1) := by decide +kernel
theorem dX3_inside_9 : decode cX3_inside 9 = .ok (.lload_n 3, 1) := by decide +kernel
theorem dX3_inside_10 : decode cX3_inside 10 = .ok (.invokestatic 70, 3) := by decide +kernel
theorem dX3_inside_13 : decode cX3_inside 13 = .ok (.ifCond .ne 6, 3) := by decide +kernel
theorem dX3_inside_16 : decode cX3_inside 16 = .ok (.bipush (-2), 2) := by decide +kernel
theorem dX3_inside_18 : decode cX3_inside 18 = .ok (.ireturn, 1) := by decide +kernel
theorem dX3_inside_19 : decode cX3_inside 19 = .ok (.iconst 0, 1) := by decide +kernel
theorem dX3_inside_20 : decode cX3_inside 20 = .ok (.istore 5, 2) := by decide +kernel
theorem dX3_inside_22 : decode cX3_inside 22 = .ok (.iconst 0, 1) := by decide +kernel
theorem dX3_inside_23 : decode cX3_inside 23 = .ok (.istore 6, 2) := by decide +kernel
theorem dX3_inside_25 : decode cX3_inside 25 = .ok (.iload 6, 2) := by decide +kernel
theorem dX3_inside_27 : decode cX3_inside 27 = .ok (.aload_n 0, 1) := by decide +kernel
theorem dX3_inside_28 : decode cX3_inside 28 = .ok (.getfield 62, 3) := by decide +kernel
theorem dX3_inside_31 : decode cX3_inside 31 = .ok (.if_icmp .ge 137, 3) := by decide +kernel
theorem dX3_inside_34 : decode cX3_inside 34 = .ok (.aload_n 0, 1) := by decide +kernel
theorem dX3_inside_35 : decode cX3_inside 35 = .ok (.iload 6, 2) := by decide +kernel
theorem dX3_inside_37 : decode cX3_inside 37 = .ok (.invokevirtual 120, 3) := by decide +kernel
theorem dX3_inside_40 : decode cX3_inside 40 = .ok (.istore 7, 2) := by decide +kernel
theorem dX3_inside_42 : decode cX3_inside 42 = .ok (.aload_n 0, 1) := by decide +kernel
theorem dX3_inside_43 : decode cX3_inside 43 = .ok (.aload_n 0, 1) := by decide +kernel
theorem dX3_inside_44 : decode cX3_inside 44 = .ok (.getfield 26, 3) := by decide +kernel
theorem dX3_inside_47 : decode cX3_inside 47 = .ok (.iload 6, 2) := by decide +kernel
theorem dX3_inside_49 : decode cX3_inside 49 = .ok (.laload, 1) := by decide +kernel
theorem dX3_inside_50 : decode cX3_inside 50 = .ok (.aload_n 0, 1) := by decide +kernel
theorem dX3_inside_51 : decode cX3_inside 51 = .ok (.getfield 29, 3) := by decide +kernel
theorem dX3_inside_54 : decode cX3_inside 54 = .ok (.iload 6, 2) := by decide +kernel
theorem dX3_inside_56 : decode cX3_inside 56 = .ok (.laload, 1) := by decide +kernel
theorem dX3_inside_57 : decode cX3_inside 57 = .ok (.aload_n 0, 1) := by decide +kernel
theorem dX3_inside_58 : decode cX3_inside 58 = .ok (.getfield 26, 3) := by decide +kernel
theorem dX3_inside_61 : decode cX3_inside 61 = .ok (.iload 7, 2) := by decide +kernel
theorem dX3_inside_63 : decode cX3_inside 63 = .ok (.laload, 1) := by decide +kernel
theorem dX3_inside_64 : decode cX3_inside 64 = .ok (.aload_n 0, 1) := by decide +kernel
theorem dX3_inside_65 : decode cX3_inside 65 = .ok (.getfield 29, 3) := by decide +kernel
theorem dX3_inside_68 : decode cX3_inside 68 = .ok (.iload 7, 2) := by decide +kernel
theorem dX3_inside_70 : decode cX3_inside 70 = .ok (.laload, 1) := by decide +kernel
theorem dX3_inside_71 : decode cX3_inside 71 = .ok (.lload_n 1, 1) := by decide +kernel
theorem dX3_inside_72 : decode cX3_inside 72 = .ok (.lload_n 3, 1) := by decide +kernel
theorem dX3_inside_73 : decode cX3_inside 73 = .ok (.invokevirtual 74, 3) := by decide +kernel
theorem dX3_inside_76 : decode cX3_inside 76 = .ok (.istore 8, 2) := by decide +kernel
theorem dX3_inside_78 : decode cX3_inside 78 = .ok (.iload 8, 2) := by decide +kernel
theorem dX3_inside_80 : decode cX3_inside 80 = .ok (.ifCond .ne 47, 3) := by decide +kernel
theorem dX3_inside_83 : decode cX3_inside 83 = .ok (.aload_n 0, 1) := by decide +kernel
theorem dX3_inside_84 : decode cX3_inside 84 = .ok (.getfield 26, 3) := by decide +kernel
theorem dX3_inside_87 : decode cX3_inside 87 = .ok (.iload 6, 2) := by decide +kernel
theorem dX3_inside_89 : decode cX3_inside 89 = .ok (.laload, 1) := by decide +kernel
theorem dX3_inside_90 : decode cX3_inside 90 = .ok (.lload_n 1, 1) := by decide +kernel
theorem dX3_inside_91 : decode cX3_inside 91 = .ok (.aload_n 0, 1) := by decide +kernel
theorem dX3_inside_92 : decode cX3_inside 92 = .ok (.getfield 26, 3) := by decide +kernel
theorem dX3_inside_95 : decode cX3_inside 95 = .ok (.iload 7, 2) := by decide +kernel
theorem dX3_inside_97 : decode cX3_inside 97 = .ok (.laload, 1) := by decide +kernel
theorem dX3_inside_98 : decode cX3_inside 98 = .ok (.invokestatic 127, 3) := by decide +kernel
theorem dX3_inside_101 : decode cX3_inside 101 = .ok (.ifCond .eq 26, 3) := by decide +kernel
theorem dX3_inside_104 : decode cX3_inside 104 = .ok (.aload_n 0, 1) := by decide +kernel
theorem dX3_inside_105 : decode cX3_inside 105 = .ok (.getfield 29, 3) := by decide +kernel
theorem dX3_inside_108 : decode cX3_inside 108 = .ok (.iload 6, 2) := by decide +kernel
theorem dX3_inside_110 : decode cX3_inside 110 = .ok (.laload, 1) := by decide +kernel
theorem dX3_inside_111 : decode cX3_inside 111 = .ok (.lload_n 3, 1) := by decide +kernel
theorem dX3_inside_112 : decode cX3_inside 112 = .ok (.aload_n 0, 1) := by decide +kernel
theorem dX3_inside_113 : decode cX3_inside 113 = .ok (.getfield 29, 3) := by decide +kernel
theorem dX3_inside_116 : decode cX3_inside 116 = .ok (.iload 7, 2) := by decide +kernel
theorem dX3_inside_118 : decode cX3_inside 118 = .ok (.laload, 1) := by decide +kernel
theorem dX3_inside_119 : decode cX3_inside 119 = .ok (.invokestatic 127, 3) := by decide +kernel
theorem dX3_inside_122 : decode cX3_inside 122 = .ok (.ifCond .eq 5, 3) := by decide +kernel
theorem dX3_inside_125 : decode cX3_inside 125 = .ok (.iconst 0, 1) := by decide +kernel
theorem dX3_inside_126 : decode cX3_inside 126 = .ok (.ireturn, 1) := by decide +kernel
theorem dX3_inside_127 : decode cX3_inside 127 = .ok (.aload_n 0, 1) := by decide +kernel
theorem dX3_inside_128 : decode cX3_inside 128 = .ok (.getfield 29, 3) := by decide +kernel
theorem dX3_inside_131 : decode cX3_inside 131 = .ok (.iload 6, 2) := by decide +kernel
theorem dX3_inside_133 : decode cX3_inside 133 = .ok (.laload, 1) := by decide +kernel
theorem dX3_inside_134 : decode cX3_inside 134 = .ok (.aload_n 0, 1) := by decide +kernel
theorem dX3_inside_135 : decode cX3_inside 135 = .ok (.getfield 29, 3) := by decide +kernel
theorem dX3_inside_138 : decode cX3_inside 138 = .ok (.iload 7, 2) := by decide +kernel
theorem dX3_inside_140 : decode cX3_inside 140 = .ok (.laload, 1) := by decide +kernel
theorem dX3_inside_141 : decode cX3_inside 141 = .ok (.lload_n 3, 1) := by decide +kernel
theorem dX3_inside_142 : decode cX3_inside 142 = .ok (.iload 8, 2) := by decide +kernel
theorem dX3_inside_144 : decode cX3_inside 144 = .ok (.invokestatic 131, 3) := by decide +kernel
theorem dX3_inside_147 : decode cX3_inside 147 = .ok (.ifCond .eq 15, 3) := by decide +kernel
theorem dX3_inside_150 : decode cX3_inside 150 = .ok (.iload 5, 2) := by decide +kernel
theorem dX3_inside_152 : decode cX3_inside 152 = .ok (.ifCond .ne 7, 3) := by decide +kernel
theorem dX3_inside_155 : decode cX3_inside 155 = .ok (.iconst 1, 1) := by decide +kernel
theorem dX3_inside_156 : decode cX3_inside 156 = .ok (.goto 4, 3) := by decide +kernel
theorem dX3_inside_159 : decode cX3_inside 159 = .ok (.iconst 0, 1) := by decide +kernel
theorem dX3_inside_160 : decode cX3_inside 160 = .ok (.istore 5, 2) := by decide +kernel
theorem dX3_inside_162 : decode cX3_inside 162 = .ok (.iinc 6 1, 3) := by decide +kernel
theorem dX3_inside_165 : decode cX3_inside 165 = .ok (.goto (-140), 3) := by decide +kernel
theorem dX3_inside_168 : decode cX3_inside 168 = .ok (.iload 5, 2) := by decide +kernel
theorem dX3_inside_170 : decode cX3_inside 170 = .ok (.ifCond .eq 7, 3) := by decide +kernel
theorem dX3_inside_173 : decode cX3_inside 173 = .ok (.iconst 1, 1) := by decide +kernel
theorem dX3_inside_174 : decode cX3_inside 174 = .ok (.goto 4, 3) := by decide +kernel
theorem dX3_inside_177 : decode cX3_inside 177 = .ok (.iconst (-1), 1) := by decide +kernel
theorem dX3_inside_178 : decode cX3_inside 178 = .ok (.ireturn, 1) := by decide +kernel
theorem dX3_over_0 : decode cX3_over 0 = .ok (.aload_n 0, 1) := by decide +kernel
theorem dX3_over_1 : decode cX3_over 1 = .ok (.lload_n 1, 1) := by decide +kernel
theorem dX3_over_2 : decode cX3_over 2 = .ok (.lconst 1, 1) := by decide +kernel
theorem dX3_over_3 : decode cX3_over 3 = .ok (.lload_n 3, 1) := by decide +kernel
theorem dX3_over_4 : decode cX3_over 4 = .ok (.iload 5, 2) := by decide +kernel
theorem dX3_over_6 : decode cX3_over 6 = .ok (.invokevirtual 135, 3) := by decide +kernel
theorem dX3_over_9 : decode cX3_over 9 = .ok (.lreturn, 1) := by decide +kernel
theorem dX3_product_0 : decode cX3_product 0 = .ok (.aload_n 0, 1) := by decide +kernel
theorem dX3_product_1 : decode cX3_product 1 = .ok (.getfield 52, 3) := by decide +kernel
theorem dX3_product_4 : decode cX3_product 4 = .ok (.lconst 0, 1) := by decide +kernel
theorem dX3_product_5 : decode cX3_product 5 = .ok (.invokevirtual 116, 3) := by decide +kernel
theorem dX3_product_8 : decode cX3_product 8 = .ok (.aload_n 0, 1) := by decide +kernel
theorem dX3_product_9 : decode cX3_product 9 = .ok (.getfield 52, 3) := by decide +kernel
theorem dX3_product_12 : decode cX3_product 12 = .ok (.lload_n 1, 1) := by decide +kernel
theorem dX3_product_13 : decode cX3_product 13 = .ok (.lload_n 3, 1) := by decide +kernel
theorem dX3_product_14 : decode cX3_product 14 = .ok (.invokevirtual 139, 3) := by decide +kernel
theorem dX3_product_17 : decode cX3_product 17 = .ok (.aload_n 0, 1) := by decide +kernel
theorem dX3_product_18 : decode cX3_product 18 = .ok (.getfield 52, 3) := by decide +kernel
theorem dX3_product_21 : decode cX3_product 21 = .ok (.iload 5, 2) := by decide +kernel
theorem dX3_product_23 : decode cX3_product 23 = .ok (.invokestatic 112, 3) := by decide +kernel
theorem dX3_product_26 : decode cX3_product 26 = .ok (.lreturn, 1) := by decide +kernel
theorem dX3_ratio_0 : decode cX3_ratio 0 = .ok (.aload_n 0, 1) := by decide +kernel
theorem dX3_ratio_1 : decode cX3_ratio 1 = .ok (.lload_n 1, 1) := by decide +kernel
theorem dX3_ratio_2 : decode cX3_ratio 2 = .ok (.lload_n 3, 1) := by decide +kernel
theorem dX3_ratio_3 : decode cX3_ratio 3 = .ok (.lload 5, 2) := by decide +kernel
theorem dX3_ratio_5 : decode cX3_ratio 5 = .ok (.iload 7, 2) := by decide +kernel
theorem dX3_ratio_7 : decode cX3_ratio 7 = .ok (.invokevirtual 135, 3) := by decide +kernel
theorem dX3_ratio_10 : decode cX3_ratio 10 = .ok (.lreturn, 1) := by decide +kernel
theorem dX3_share_0 : decode cX3_share 0 = .ok (.iload 4, 2) := by decide +kernel
theorem dX3_share_2 : decode cX3_share 2 = .ok (.iconst 1, 1) := by decide +kernel
theorem dX3_share_3 : decode cX3_share 3 = .ok (.if_icmp .lt 10, 3) := by decide +kernel
theorem dX3_share_6 : decode cX3_share 6 = .ok (.iload 4, 2) := by decide +kernel
theorem dX3_share_8 : decode cX3_share 8 = .ok (.ldc 143, 2) := by decide +kernel
theorem dX3_share_10 : decode cX3_share 10 = .ok (.if_icmp .le 7, 3) := by decide +kernel
theorem dX3_share_13 : decode cX3_share 13 = .ok (.ldc2_w 100, 3) := by decide +kernel
theorem dX3_share_16 : decode cX3_share 16 = .ok (.lreturn, 1) := by decide +kernel
theorem dX3_share_17 : decode cX3_share 17 = .ok (.iload_n 3, 1) := by decide +kernel
theorem dX3_share_18 : decode cX3_share 18 = .ok (.ifCond .lt 9, 3) := by decide +kernel
theorem dX3_share_21 : decode cX3_share 21 = .ok (.iload_n 3, 1) := by decide +kernel
theorem dX3_share_22 : decode cX3_share 22 = .ok (.iload 4, 2) := by decide +kernel
theorem dX3_share_24 : decode cX3_share 24 = .ok (.if_icmp .lt 13, 3) := by decide +kernel
theorem dX3_share_27 : decode cX3_share 27 = .ok (.new 144, 3) := by decide +kernel
theorem dX3_share_30 : decode cX3_share 30 = .ok (.dup, 1) := by decide +kernel
theorem dX3_share_31 : decode cX3_share 31 = .ok (.ldc 146, 2) := by decide +kernel
theorem dX3_share_33 : decode cX3_share 33 = .ok (.invokespecial 148, 3) := by decide +kernel
theorem dX3_share_36 : decode cX3_share 36 = .ok (.athrow, 1) := by decide +kernel
theorem dX3_share_37 : decode cX3_share 37 = .ok (.iload 4, 2) := by decide +kernel
theorem dX3_share_39 : decode cX3_share 39 = .ok (.i2l, 1) := by decide +kernel
theorem dX3_share_40 : decode cX3_share 40 = .ok (.lstore 5, 2) := by decide +kernel
theorem dX3_share_42 : decode cX3_share 42 = .ok (.lload_n 1, 1) := by decide +kernel
theorem dX3_share_43 : decode cX3_share 43 = .ok (.lload 5, 2) := by decide +kernel
theorem dX3_share_45 : decode cX3_share 45 = .ok (.invokestatic 151, 3) := by decide +kernel
theorem dX3_share_48 : decode cX3_share 48 = .ok (.lstore 7, 2) := by decide +kernel
theorem dX3_share_50 : decode cX3_share 50 = .ok (.iload_n 3, 1) := by decide +kernel
theorem dX3_share_51 : decode cX3_share 51 = .ok (.i2l, 1) := by decide +kernel
theorem dX3_share_52 : decode cX3_share 52 = .ok (.lload_n 1, 1) := by decide +kernel
theorem dX3_share_53 : decode cX3_share 53 = .ok (.lload 5, 2) := by decide +kernel
theorem dX3_share_55 : decode cX3_share 55 = .ok (.invokestatic 157, 3) := by decide +kernel
theorem dX3_share_58 : decode cX3_share 58 = .ok (.lcmp, 1) := by decide +kernel
theorem dX3_share_59 : decode cX3_share 59 = .ok (.ifCond .ge 10, 3) := by decide +kernel
theorem dX3_share_62 : decode cX3_share 62 = .ok (.lload 7, 2) := by decide +kernel
theorem dX3_share_64 : decode cX3_share 64 = .ok (.lconst 1, 1) := by decide +kernel
theorem dX3_share_65 : decode cX3_share 65 = .ok (.ladd, 1) := by decide +kernel
theorem dX3_share_66 : decode cX3_share 66 = .ok (.goto 5, 3) := by decide +kernel
theorem dX3_share_69 : decode cX3_share 69 = .ok (.lload 7, 2) := by decide +kernel
theorem dX3_share_71 : decode cX3_share 71 = .ok (.lreturn, 1) := by decide +kernel
theorem dX3_digit_0 : decode cX3_digit 0 = .ok (.iload_n 3, 1) := by decide +kernel
theorem dX3_digit_1 : decode cX3_digit 1 = .ok (.iconst 2, 1) := by decide +kernel
theorem dX3_digit_2 : decode cX3_digit 2 = .ok (.if_icmp .lt 9, 3) := by decide +kernel
theorem dX3_digit_5 : decode cX3_digit 5 = .ok (.iload_n 3, 1) := by decide +kernel
theorem dX3_digit_6 : decode cX3_digit 6 = .ok (.bipush 36, 2) := by decide +kernel
theorem dX3_digit_8 : decode cX3_digit 8 = .ok (.if_icmp .le 5, 3) := by decide +kernel
theorem dX3_digit_11 : decode cX3_digit 11 = .ok (.iconst (-1), 1) := by decide +kernel
theorem dX3_digit_12 : decode cX3_digit 12 = .ok (.ireturn, 1) := by decide +kernel
theorem dX3_digit_13 : decode cX3_digit 13 = .ok (.lload_n 1, 1) := by decide +kernel
theorem dX3_digit_14 : decode cX3_digit 14 = .ok (.lconst 0, 1) := by decide +kernel
theorem dX3_digit_15 : decode cX3_digit 15 = .ok (.lcmp, 1) := by decide +kernel
theorem dX3_digit_16 : decode cX3_digit 16 = .ok (.ifCond .ge 7, 3) := by decide +kernel
theorem dX3_digit_19 : decode cX3_digit 19 = .ok (.lload_n 1, 1) := by decide +kernel
theorem dX3_digit_20 : decode cX3_digit 20 = .ok (.goto 5, 3) := by decide +kernel
theorem dX3_digit_23 : decode cX3_digit 23 = .ok (.lload_n 1, 1) := by decide +kernel
theorem dX3_digit_24 : decode cX3_digit 24 = .ok (.lneg, 1) := by decide +kernel
theorem dX3_digit_25 : decode cX3_digit 25 = .ok (.lstore 5, 2) := by decide +kernel
theorem dX3_digit_27 : decode cX3_digit 27 = .ok (.iconst 0, 1) := by decide +kernel
theorem dX3_digit_28 : decode cX3_digit 28 = .ok (.istore 7, 2) := by decide +kernel
theorem dX3_digit_30 : decode cX3_digit 30 = .ok (.iload 7, 2) := by decide +kernel
theorem dX3_digit_32 : decode cX3_digit 32 = .ok (.iload 4, 2) := by decide +kernel
theorem dX3_digit_34 : decode cX3_digit 34 = .ok (.if_icmp .ge 23, 3) := by decide +kernel
theorem dX3_digit_37 : decode cX3_digit 37 = .ok (.iload 7, 2) := by decide +kernel
theorem dX3_digit_39 : decode cX3_digit 39 = .ok (.bipush 64, 2) := by decide +kernel
theorem dX3_digit_41 : decode cX3_digit 41 = .ok (.if_icmp .ge 16, 3) := by decide +kernel
theorem dX3_digit_44 : decode cX3_digit 44 = .ok (.lload 5, 2) := by decide +kernel
theorem dX3_digit_46 : decode cX3_digit 46 = .ok (.iload_n 3, 1) := by decide +kernel
theorem dX3_digit_47 : decode cX3_digit 47 = .ok (.i2l, 1) := by decide +kernel
theorem dX3_digit_48 : decode cX3_digit 48 = .ok (.ldiv, 1) := by decide +kernel
theorem dX3_digit_49 : decode cX3_digit 49 = .ok (.lstore 5, 2) := by decide +kernel
theorem dX3_digit_51 : decode cX3_digit 51 = .ok (.iinc 7 1, 3) := by decide +kernel
theorem dX3_digit_54 : decode cX3_digit 54 = .ok (.goto (-24), 3) := by decide +kernel
theorem dX3_digit_57 : decode cX3_digit 57 = .ok (.iload 4, 2) := by decide +kernel
theorem dX3_digit_59 : decode cX3_digit 59 = .ok (.ifCond .lt 22, 3) := by decide +kernel
theorem dX3_digit_62 : decode cX3_digit 62 = .ok (.iload 4, 2) := by decide +kernel
theorem dX3_digit_64 : decode cX3_digit 64 = .ok (.bipush 64, 2) := by decide +kernel
theorem dX3_digit_66 : decode cX3_digit 66 = .ok (.if_icmp .ge 15, 3) := by decide +kernel
theorem dX3_digit_69 : decode cX3_digit 69 = .ok (.iload 4, 2) := by decide +kernel
theorem dX3_digit_71 : decode cX3_digit 71 = .ok (.ifCond .le 20, 3) := by decide +kernel
theorem dX3_digit_74 : decode cX3_digit 74 = .ok (.lload 5, 2) := by decide +kernel
theorem dX3_digit_76 : decode cX3_digit 76 = .ok (.lconst 0, 1) := by decide +kernel
theorem dX3_digit_77 : decode cX3_digit 77 = .ok (.lcmp, 1) := by decide +kernel
theorem dX3_digit_78 : decode cX3_digit 78 = .ok (.ifCond .ne 13, 3) := by decide +kernel
theorem dX3_digit_81 : decode cX3_digit 81 = .ok (.new 144, 3) := by decide +kernel
theorem dX3_digit_84 : decode cX3_digit 84 = .ok (.dup, 1) := by decide +kernel
theorem dX3_digit_85 : decode cX3_digit 85 = .ok (.ldc 160, 2) := by decide +kernel
theorem dX3_digit_87 : decode cX3_digit 87 = .ok (.invokespecial 148, 3) := by decide +kernel
theorem dX3_digit_90 : decode cX3_digit 90 = .ok (.athrow, 1) := by decide +kernel
theorem dX3_digit_91 : decode cX3_digit 91 = .ok (.lload 5, 2) := by decide +kernel
theorem dX3_digit_93 : decode cX3_digit 93 = .ok (.iload_n 3, 1) := by decide +kernel
theorem dX3_digit_94 : decode cX3_digit 94 = .ok (.i2l, 1) := by decide +kernel
theorem dX3_digit_95 : decode cX3_digit 95 = .ok (.lrem, 1) := by decide +kernel
theorem dX3_digit_96 : decode cX3_digit 96 = .ok (.lneg, 1) := by decide +kernel
theorem dX3_digit_97 : decode cX3_digit 97 = .ok (.l2i, 1) := by decide +kernel
theorem dX3_digit_98 : decode cX3_digit 98 = .ok (.ireturn, 1) := by decide +kernel
theorem dX3_clear_0 : decode cX3_clear 0 = .ok (.iconst 0, 1) := by decide +kernel
theorem dX3_clear_1 : decode cX3_clear 1 = .ok (.istore_n 1, 1) := by decide +kernel
theorem dX3_clear_2 : decode cX3_clear 2 = .ok (.iload_n 1, 1) := by decide +kernel
theorem dX3_clear_3 : decode cX3_clear 3 = .ok (.bipush 16, 2) := by decide +kernel
theorem dX3_clear_5 : decode cX3_clear 5 = .ok (.if_icmp .ge 16, 3) := by decide +kernel
theorem dX3_clear_8 : decode cX3_clear 8 = .ok (.aload_n 0, 1) := by decide +kernel
theorem dX3_clear_9 : decode cX3_clear 9 = .ok (.getfield 9, 3) := by decide +kernel
theorem dX3_clear_12 : decode cX3_clear 12 = .ok (.iload_n 1, 1) := by decide +kernel
theorem dX3_clear_13 : decode cX3_clear 13 = .ok (.iconst 0, 1) := by decide +kernel
theorem dX3_clear_14 : decode cX3_clear 14 = .ok (.bastore, 1) := by decide +kernel
theorem dX3_clear_15 : decode cX3_clear 15 = .ok (.iinc 1 1, 3) := by decide +kernel
theorem dX3_clear_18 : decode cX3_clear 18 = .ok (.goto (-16), 3) := by decide +kernel
theorem dX3_clear_21 : decode cX3_clear 21 = .ok (.aload_n 0, 1) := by decide +kernel
theorem dX3_clear_22 : decode cX3_clear 22 = .ok (.iconst 0, 1) := by decide +kernel
theorem dX3_clear_23 : decode cX3_clear 23 = .ok (.putfield 62, 3) := by decide +kernel
theorem dX3_clear_26 : decode cX3_clear 26 = .ok (.aload_n 0, 1) := by decide +kernel
theorem dX3_clear_27 : decode cX3_clear 27 = .ok (.iconst 0, 1) := by decide +kernel
theorem dX3_clear_28 : decode cX3_clear 28 = .ok (.putfield 66, 3) := by decide +kernel
theorem dX3_clear_31 : decode cX3_clear 31 = .ok (.return_, 1) := by decide +kernel
theorem dX3_count_0 : decode cX3_count 0 = .ok (.iload_n 1, 1) := by decide +kernel
theorem dX3_count_1 : decode cX3_count 1 = .ok (.tableswitch 50 0 2 #[27, 32, 37], 27) := by decide +kernel
theorem dX3_count_28 : decode cX3_count 28 = .ok (.aload_n 0, 1) := by decide +kernel
theorem dX3_count_29 : decode cX3_count 29 = .ok (.invokevirtual 162, 3) := by decide +kernel
theorem dX3_count_32 : decode cX3_count 32 = .ok (.ireturn, 1) := by decide +kernel
theorem dX3_count_33 : decode cX3_count 33 = .ok (.aload_n 0, 1) := by decide +kernel
theorem dX3_count_34 : decode cX3_count 34 = .ok (.getfield 62, 3) := by decide +kernel
theorem dX3_count_37 : decode cX3_count 37 = .ok (.ireturn, 1) := by decide +kernel
theorem dX3_count_38 : decode cX3_count 38 = .ok (.aload_n 0, 1) := by decide +kernel
theorem dX3_count_39 : decode cX3_count 39 = .ok (.getfield 66, 3) := by decide +kernel
theorem dX3_count_42 : decode cX3_count 42 = .ok (.ifCond .eq 7, 3) := by decide +kernel
theorem dX3_count_45 : decode cX3_count 45 = .ok (.iconst 1, 1) := by decide +kernel
theorem dX3_count_46 : decode cX3_count 46 = .ok (.goto 4, 3) := by decide +kernel
theorem dX3_count_49 : decode cX3_count 49 = .ok (.iconst 0, 1) := by decide +kernel
theorem dX3_count_50 : decode cX3_count 50 = .ok (.ireturn, 1) := by decide +kernel
theorem dX3_count_51 : decode cX3_count 51 = .ok (.iconst (-1), 1) := by decide +kernel
theorem dX3_count_52 : decode cX3_count 52 = .ok (.ireturn, 1) := by decide +kernel
theorem dX3_isOnGrid_0 : decode cX3_isOnGrid 0 = .ok (.lload_n 0, 1) := by decide +kernel
theorem dX3_isOnGrid_1 : decode cX3_isOnGrid 1 = .ok (.ldc2_w 165, 3) := by decide +kernel
theorem dX3_isOnGrid_4 : decode cX3_isOnGrid 4 = .ok (.lcmp, 1) := by decide +kernel
theorem dX3_isOnGrid_5 : decode cX3_isOnGrid 5 = .ok (.ifCond .lt 31, 3) := by decide +kernel
theorem dX3_isOnGrid_8 : decode cX3_isOnGrid 8 = .ok (.lload_n 0, 1) := by decide +kernel
theorem dX3_isOnGrid_9 : decode cX3_isOnGrid 9 = .ok (.ldc2_w 167, 3) := by decide +kernel
theorem dX3_isOnGrid_12 : decode cX3_isOnGrid 12 = .ok (.lcmp, 1) := by decide +kernel
theorem dX3_isOnGrid_13 : decode cX3_isOnGrid 13 = .ok (.ifCond .gt 23, 3) := by decide +kernel
theorem dX3_isOnGrid_16 : decode cX3_isOnGrid 16 = .ok (.lload_n 2, 1) := by decide +kernel
theorem dX3_isOnGrid_17 : decode cX3_isOnGrid 17 = .ok (.ldc2_w 165, 3) := by decide +kernel
theorem dX3_isOnGrid_20 : decode cX3_isOnGrid 20 = .ok (.lcmp, 1) := by decide +kernel
theorem dX3_isOnGrid_21 : decode cX3_isOnGrid 21 = .ok (.ifCond .lt 15, 3) := by decide +kernel
theorem dX3_isOnGrid_24 : decode cX3_isOnGrid 24 = .ok (.lload_n 2, 1) := by decide +kernel
theorem dX3_isOnGrid_25 : decode cX3_isOnGrid 25 = .ok (.ldc2_w 167, 3) := by decide +kernel
theorem dX3_isOnGrid_28 : decode cX3_isOnGrid 28 = .ok (.lcmp, 1) := by decide +kernel
theorem dX3_isOnGrid_29 : decode cX3_isOnGrid 29 = .ok (.ifCond .gt 7, 3) := by decide +kernel
theorem dX3_isOnGrid_32 : decode cX3_isOnGrid 32 = .ok (.iconst 1, 1) := by decide +kernel
theorem dX3_isOnGrid_33 : decode cX3_isOnGrid 33 = .ok (.goto 4, 3) := by decide +kernel
theorem dX3_isOnGrid_36 : decode cX3_isOnGrid 36 = .ok (.iconst 0, 1) := by decide +kernel
theorem dX3_isOnGrid_37 : decode cX3_isOnGrid 37 = .ok (.ireturn, 1) := by decide +kernel
theorem dX3_isBetween_0 : decode cX3_isBetween 0 = .ok (.lload_n 0, 1) := by decide +kernel
theorem dX3_isBetween_1 : decode cX3_isBetween 1 = .ok (.lload 4, 2) := by decide +kernel
theorem dX3_isBetween_3 : decode cX3_isBetween 3 = .ok (.invokestatic 169, 3) := by decide +kernel
theorem dX3_isBetween_6 : decode cX3_isBetween 6 = .ok (.lload_n 2, 1) := by decide +kernel
theorem dX3_isBetween_7 : decode cX3_isBetween 7 = .ok (.lcmp, 1) := by decide +kernel
theorem dX3_isBetween_8 : decode cX3_isBetween 8 = .ok (.ifCond .gt 18, 3) := by decide +kernel
theorem dX3_isBetween_11 : decode cX3_isBetween 11 = .ok (.lload_n 2, 1) := by decide +kernel
theorem dX3_isBetween_12 : decode cX3_isBetween 12 = .ok (.lload_n 0, 1) := by decide +kernel
theorem dX3_isBetween_13 : decode cX3_isBetween 13 = .ok (.lload 4, 2) := by decide +kernel
theorem dX3_isBetween_15 : decode cX3_isBetween 15 = .ok (.invokestatic 172, 3) := by decide +kernel
theorem dX3_isBetween_18 : decode cX3_isBetween 18 = .ok (.lcmp, 1) := by decide +kernel
theorem dX3_isBetween_19 : decode cX3_isBetween 19 = .ok (.ifCond .gt 7, 3) := by decide +kernel
theorem dX3_isBetween_22 : decode cX3_isBetween 22 = .ok (.iconst 1, 1) := by decide +kernel
theorem dX3_isBetween_23 : decode cX3_isBetween 23 = .ok (.goto 4, 3) := by decide +kernel
theorem dX3_isBetween_26 : decode cX3_isBetween 26 = .ok (.iconst 0, 1) := by decide +kernel
theorem dX3_isBetween_27 : decode cX3_isBetween 27 = .ok (.ireturn, 1) := by decide +kernel
theorem dX3_isTold_0 : decode cX3_isTold 0 = .ok (.iload_n 1, 1) := by decide +kernel
theorem dX3_isTold_1 : decode cX3_isTold 1 = .ok (.ifCond .lt 22, 3) := by decide +kernel
theorem dX3_isTold_4 : decode cX3_isTold 4 = .ok (.iload_n 1, 1) := by decide +kernel
theorem dX3_isTold_5 : decode cX3_isTold 5 = .ok (.bipush 16, 2) := by decide +kernel
theorem dX3_isTold_7 : decode cX3_isTold 7 = .ok (.if_icmp .ge 16, 3) := by decide +kernel
theorem dX3_isTold_10 : decode cX3_isTold 10 = .ok (.aload_n 0, 1) := by decide +kernel
theorem dX3_isTold_11 : decode cX3_isTold 11 = .ok (.getfield 9, 3) := by decide +kernel
theorem dX3_isTold_14 : decode cX3_isTold 14 = .ok (.iload_n 1, 1) := by decide +kernel
theorem dX3_isTold_15 : decode cX3_isTold 15 = .ok (.baload, 1) := by decide +kernel
theorem dX3_isTold_16 : decode cX3_isTold 16 = .ok (.ifCond .eq 7, 3) := by decide +kernel
theorem dX3_isTold_19 : decode cX3_isTold 19 = .ok (.iconst 1, 1) := by decide +kernel
theorem dX3_isTold_20 : decode cX3_isTold 20 = .ok (.goto 4, 3) := by decide +kernel
theorem dX3_isTold_23 : decode cX3_isTold 23 = .ok (.iconst 0, 1) := by decide +kernel
theorem dX3_isTold_24 : decode cX3_isTold 24 = .ok (.ireturn, 1) := by decide +kernel
theorem dX3_isAnswerable_0 : decode cX3_isAnswerable 0 = .ok (.aload_n 0, 1) := by decide +kernel
theorem dX3_isAnswerable_1 : decode cX3_isAnswerable 1 = .ok (.getfield 66, 3) := by decide +kernel
theorem dX3_isAnswerable_4 : decode cX3_isAnswerable 4 = .ok (.ifCond .eq 16, 3) := by decide +kernel
theorem dX3_isAnswerable_7 : decode cX3_isAnswerable 7 = .ok (.iload_n 1, 1) := by decide +kernel
theorem dX3_isAnswerable_8 : decode cX3_isAnswerable 8 = .ok (.ifCond .eq 8, 3) := by decide +kernel
theorem dX3_isAnswerable_11 : decode cX3_isAnswerable 11 = .ok (.iload_n 1, 1) := by decide +kernel
theorem dX3_isAnswerable_12 : decode cX3_isAnswerable 12 = .ok (.iconst 1, 1) := by decide +kernel
theorem dX3_isAnswerable_13 : decode cX3_isAnswerable 13 = .ok (.if_icmp .ne 7, 3) := by decide +kernel
theorem dX3_isAnswerable_16 : decode cX3_isAnswerable 16 = .ok (.iconst 1, 1) := by decide +kernel
theorem dX3_isAnswerable_17 : decode cX3_isAnswerable 17 = .ok (.goto 4, 3) := by decide +kernel
theorem dX3_isAnswerable_20 : decode cX3_isAnswerable 20 = .ok (.iconst 0, 1) := by decide +kernel
theorem dX3_isAnswerable_21 : decode cX3_isAnswerable 21 = .ok (.ireturn, 1) := by decide +kernel
theorem dX3_linesTold_0 : decode cX3_linesTold 0 = .ok (.iconst 0, 1) := by decide +kernel
theorem dX3_linesTold_1 : decode cX3_linesTold 1 = .ok (.istore_n 1, 1) := by decide +kernel
theorem dX3_linesTold_2 : decode cX3_linesTold 2 = .ok (.iconst 0, 1) := by decide +kernel
theorem dX3_linesTold_3 : decode cX3_linesTold 3 = .ok (.istore_n 2, 1) := by decide +kernel
theorem dX3_linesTold_4 : decode cX3_linesTold 4 = .ok (.iload_n 2, 1) := by decide +kernel
theorem dX3_linesTold_5 : decode cX3_linesTold 5 = .ok (.bipush 16, 2) := by decide +kernel
theorem dX3_linesTold_7 : decode cX3_linesTold 7 = .ok (.if_icmp .ge 21, 3) := by decide +kernel
theorem dX3_linesTold_10 : decode cX3_linesTold 10 = .ok (.aload_n 0, 1) := by decide +kernel
theorem dX3_linesTold_11 : decode cX3_linesTold 11 = .ok (.getfield 9, 3) := by decide +kernel
theorem dX3_linesTold_14 : decode cX3_linesTold 14 = .ok (.iload_n 2, 1) := by decide +kernel
theorem dX3_linesTold_15 : decode cX3_linesTold 15 = .ok (.baload, 1) := by decide +kernel
theorem dX3_linesTold_16 : decode cX3_linesTold 16 = .ok (.ifCond .eq 6, 3) := by decide +kernel
theorem dX3_linesTold_19 : decode cX3_linesTold 19 = .ok (.iinc 1 1, 3) := by decide +kernel
theorem dX3_linesTold_22 : decode cX3_linesTold 22 = .ok (.iinc 2 1, 3) := by decide +kernel
theorem dX3_linesTold_25 : decode cX3_linesTold 25 = .ok (.goto (-21), 3) := by decide +kernel
theorem dX3_linesTold_28 : decode cX3_linesTold 28 = .ok (.iload_n 1, 1) := by decide +kernel
theorem dX3_linesTold_29 : decode cX3_linesTold 29 = .ok (.ireturn, 1) := by decide +kernel
theorem dX3_cornerBehind_0 : decode cX3_cornerBehind 0 = .ok (.iload_n 1, 1) := by decide +kernel
theorem dX3_cornerBehind_1 : decode cX3_cornerBehind 1 = .ok (.iconst 1, 1) := by decide +kernel
theorem dX3_cornerBehind_2 : decode cX3_cornerBehind 2 = .ok (.iadd, 1) := by decide +kernel
theorem dX3_cornerBehind_3 : decode cX3_cornerBehind 3 = .ok (.aload_n 0, 1) := by decide +kernel
theorem dX3_cornerBehind_4 : decode cX3_cornerBehind 4 = .ok (.getfield 62, 3) := by decide +kernel
theorem dX3_cornerBehind_7 : decode cX3_cornerBehind 7 = .ok (.if_icmp .ge 9, 3) := by decide +kernel
theorem dX3_cornerBehind_10 : decode cX3_cornerBehind 10 = .ok (.iload_n 1, 1) := by decide +kernel
theorem dX3_cornerBehind_11 : decode cX3_cornerBehind 11 = .ok (.iconst 1, 1) := by decide +kernel
theorem dX3_cornerBehind_12 : decode cX3_cornerBehind 12 = .ok (.iadd, 1) := by decide +kernel
theorem dX3_cornerBehind_13 : decode cX3_cornerBehind 13 = .ok (.goto 4, 3) := by decide +kernel
theorem dX3_cornerBehind_16 : decode cX3_cornerBehind 16 = .ok (.iconst 0, 1) := by decide +kernel
theorem dX3_cornerBehind_17 : decode cX3_cornerBehind 17 = .ok (.ireturn, 1) := by decide +kernel
theorem dX3_sideOf_0 : decode cX3_sideOf 0 = .ok (.aload_n 0, 1) := by decide +kernel
theorem dX3_sideOf_1 : decode cX3_sideOf 1 = .ok (.getfield 52, 3) := by decide +kernel
theorem dX3_sideOf_4 : decode cX3_sideOf 4 = .ok (.lload 5, 2) := by decide +kernel
theorem dX3_sideOf_6 : decode cX3_sideOf 6 = .ok (.lload_n 1, 1) := by decide +kernel
theorem dX3_sideOf_7 : decode cX3_sideOf 7 = .ok (.lsub, 1) := by decide +kernel
theorem dX3_sideOf_8 : decode cX3_sideOf 8 = .ok (.lload 7, 2) := by decide +kernel
theorem dX3_sideOf_10 : decode cX3_sideOf 10 = .ok (.lload_n 3, 1) := by decide +kernel
theorem dX3_sideOf_11 : decode cX3_sideOf 11 = .ok (.lsub, 1) := by decide +kernel
theorem dX3_sideOf_12 : decode cX3_sideOf 12 = .ok (.lload 9, 2) := by decide +kernel
theorem dX3_sideOf_14 : decode cX3_sideOf 14 = .ok (.lload_n 1, 1) := by decide +kernel
theorem dX3_sideOf_15 : decode cX3_sideOf 15 = .ok (.lsub, 1) := by decide +kernel
theorem dX3_sideOf_16 : decode cX3_sideOf 16 = .ok (.lload 11, 2) := by decide +kernel
theorem dX3_sideOf_18 : decode cX3_sideOf 18 = .ok (.lload_n 3, 1) := by decide +kernel
theorem dX3_sideOf_19 : decode cX3_sideOf 19 = .ok (.lsub, 1) := by decide +kernel
theorem dX3_sideOf_20 : decode cX3_sideOf 20 = .ok (.invokevirtual 82, 3) := by decide +kernel
theorem dX3_sideOf_23 : decode cX3_sideOf 23 = .ok (.aload_n 0, 1) := by decide +kernel
theorem dX3_sideOf_24 : decode cX3_sideOf 24 = .ok (.getfield 52, 3) := by decide +kernel
theorem dX3_sideOf_27 : decode cX3_sideOf 27 = .ok (.invokevirtual 86, 3) := by decide +kernel
theorem dX3_sideOf_30 : decode cX3_sideOf 30 = .ok (.ireturn, 1) := by decide +kernel
theorem dX3_meetsRay_0 : decode cX3_meetsRay 0 = .ok (.lload_n 0, 1) := by decide +kernel
theorem dX3_meetsRay_1 : decode cX3_meetsRay 1 = .ok (.lload 4, 2) := by decide +kernel
theorem dX3_meetsRay_3 : decode cX3_meetsRay 3 = .ok (.lcmp, 1) := by decide +kernel
theorem dX3_meetsRay_4 : decode cX3_meetsRay 4 = .ok (.ifCond .gt 21, 3) := by decide +kernel
theorem dX3_meetsRay_7 : decode cX3_meetsRay 7 = .ok (.lload 4, 2) := by decide +kernel
theorem dX3_meetsRay_9 : decode cX3_meetsRay 9 = .ok (.lload_n 2, 1) := by decide +kernel
theorem dX3_meetsRay_10 : decode cX3_meetsRay 10 = .ok (.lcmp, 1) := by decide +kernel
theorem dX3_meetsRay_11 : decode cX3_meetsRay 11 = .ok (.ifCond .ge 14, 3) := by decide +kernel
theorem dX3_meetsRay_14 : decode cX3_meetsRay 14 = .ok (.iload 6, 2) := by decide +kernel
theorem dX3_meetsRay_16 : decode cX3_meetsRay 16 = .ok (.ifCond .le 7, 3) := by decide +kernel
theorem dX3_meetsRay_19 : decode cX3_meetsRay 19 = .ok (.iconst 1, 1) := by decide +kernel
theorem dX3_meetsRay_20 : decode cX3_meetsRay 20 = .ok (.goto 4, 3) := by decide +kernel
theorem dX3_meetsRay_23 : decode cX3_meetsRay 23 = .ok (.iconst 0, 1) := by decide +kernel
theorem dX3_meetsRay_24 : decode cX3_meetsRay 24 = .ok (.ireturn, 1) := by decide +kernel
theorem dX3_meetsRay_25 : decode cX3_meetsRay 25 = .ok (.lload_n 2, 1) := by decide +kernel
theorem dX3_meetsRay_26 : decode cX3_meetsRay 26 = .ok (.lload 4, 2) := by decide +kernel
theorem dX3_meetsRay_28 : decode cX3_meetsRay 28 = .ok (.lcmp, 1) := by decide +kernel
theorem dX3_meetsRay_29 : decode cX3_meetsRay 29 = .ok (.ifCond .gt 19, 3) := by decide +kernel
theorem dX3_meetsRay_32 : decode cX3_meetsRay 32 = .ok (.lload 4, 2) := by decide +kernel
theorem dX3_meetsRay_34 : decode cX3_meetsRay 34 = .ok (.lload_n 0, 1) := by decide +kernel
theorem dX3_meetsRay_35 : decode cX3_meetsRay 35 = .ok (.lcmp, 1) := by decide +kernel
theorem dX3_meetsRay_36 : decode cX3_meetsRay 36 = .ok (.ifCond .ge 12, 3) := by decide +kernel
theorem dX3_meetsRay_39 : decode cX3_meetsRay 39 = .ok (.iload 6, 2) := by decide +kernel
theorem dX3_meetsRay_41 : decode cX3_meetsRay 41 = .ok (.ifCond .ge 7, 3) := by decide +kernel
theorem dX3_meetsRay_44 : decode cX3_meetsRay 44 = .ok (.iconst 1, 1) := by decide +kernel
theorem dX3_meetsRay_45 : decode cX3_meetsRay 45 = .ok (.goto 4, 3) := by decide +kernel
theorem dX3_meetsRay_48 : decode cX3_meetsRay 48 = .ok (.iconst 0, 1) := by decide +kernel
theorem dX3_meetsRay_49 : decode cX3_meetsRay 49 = .ok (.ireturn, 1) := by decide +kernel
theorem dX3_meetOfOthers_0 : decode cX3_meetOfOthers 0 = .ok (.aload_n 0, 1) := by decide +kernel
theorem dX3_meetOfOthers_1 : decode cX3_meetOfOthers 1 = .ok (.getfield 13, 3) := by decide +kernel
theorem dX3_meetOfOthers_4 : decode cX3_meetOfOthers 4 = .ok (.iload_n 2, 1) := by decide +kernel
theorem dX3_meetOfOthers_5 : decode cX3_meetOfOthers 5 = .ok (.laload, 1) := by decide +kernel
theorem dX3_meetOfOthers_6 : decode cX3_meetOfOthers 6 = .ok (.aload_n 0, 1) := by decide +kernel
theorem dX3_meetOfOthers_7 : decode cX3_meetOfOthers 7 = .ok (.getfield 13, 3) := by decide +kernel
theorem dX3_meetOfOthers_10 : decode cX3_meetOfOthers 10 = .ok (.iload_n 1, 1) := by decide +kernel
theorem dX3_meetOfOthers_11 : decode cX3_meetOfOthers 11 = .ok (.laload, 1) := by decide +kernel
theorem dX3_meetOfOthers_12 : decode cX3_meetOfOthers 12 = .ok (.lsub, 1) := by decide +kernel
theorem dX3_meetOfOthers_13 : decode cX3_meetOfOthers 13 = .ok (.lstore_n 3, 1) := by decide +kernel
theorem dX3_meetOfOthers_14 : decode cX3_meetOfOthers 14 = .ok (.aload_n 0, 1) := by decide +kernel
theorem dX3_meetOfOthers_15 : decode cX3_meetOfOthers 15 = .ok (.getfield 17, 3) := by decide +kernel
theorem dX3_meetOfOthers_18 : decode cX3_meetOfOthers 18 = .ok (.iload_n 2, 1) := by decide +kernel
theorem dX3_meetOfOthers_19 : decode cX3_meetOfOthers 19 = .ok (.laload, 1) := by decide +kernel
theorem dX3_meetOfOthers_20 : decode cX3_meetOfOthers 20 = .ok (.aload_n 0, 1) := by decide +kernel
theorem dX3_meetOfOthers_21 : decode cX3_meetOfOthers 21 = .ok (.getfield 17, 3) := by decide +kernel
theorem dX3_meetOfOthers_24 : decode cX3_meetOfOthers 24 = .ok (.iload_n 1, 1) := by decide +kernel
theorem dX3_meetOfOthers_25 : decode cX3_meetOfOthers 25 = .ok (.laload, 1) := by decide +kernel
theorem dX3_meetOfOthers_26 : decode cX3_meetOfOthers 26 = .ok (.lsub, 1) := by decide +kernel
theorem dX3_meetOfOthers_27 : decode cX3_meetOfOthers 27 = .ok (.lstore 5, 2) := by decide +kernel
theorem dX3_meetOfOthers_29 : decode cX3_meetOfOthers 29 = .ok (.aload_n 0, 1) := by decide +kernel
theorem dX3_meetOfOthers_30 : decode cX3_meetOfOthers 30 = .ok (.getfield 56, 3) := by decide +kernel
theorem dX3_meetOfOthers_33 : decode cX3_meetOfOthers 33 = .ok (.lload_n 3, 1) := by decide +kernel
theorem dX3_meetOfOthers_34 : decode cX3_meetOfOthers 34 = .ok (.lload 5, 2) := by decide +kernel
theorem dX3_meetOfOthers_36 : decode cX3_meetOfOthers 36 = .ok (.aload_n 0, 1) := by decide +kernel
theorem dX3_meetOfOthers_37 : decode cX3_meetOfOthers 37 = .ok (.getfield 20, 3) := by decide +kernel
theorem dX3_meetOfOthers_40 : decode cX3_meetOfOthers 40 = .ok (.iload_n 2, 1) := by decide +kernel
theorem dX3_meetOfOthers_41 : decode cX3_meetOfOthers 41 = .ok (.laload, 1) := by decide +kernel
theorem dX3_meetOfOthers_42 : decode cX3_meetOfOthers 42 = .ok (.aload_n 0, 1) := by decide +kernel
theorem dX3_meetOfOthers_43 : decode cX3_meetOfOthers 43 = .ok (.getfield 23, 3) := by decide +kernel
theorem dX3_meetOfOthers_46 : decode cX3_meetOfOthers 46 = .ok (.iload_n 2, 1) := by decide +kernel
theorem dX3_meetOfOthers_47 : decode cX3_meetOfOthers 47 = .ok (.laload, 1) := by decide +kernel
theorem dX3_meetOfOthers_48 : decode cX3_meetOfOthers 48 = .ok (.invokevirtual 82, 3) := by decide +kernel
theorem dX3_meetOfOthers_51 : decode cX3_meetOfOthers 51 = .ok (.aload_n 0, 1) := by decide +kernel
theorem dX3_meetOfOthers_52 : decode cX3_meetOfOthers 52 = .ok (.getfield 59, 3) := by decide +kernel
theorem dX3_meetOfOthers_55 : decode cX3_meetOfOthers 55 = .ok (.lload_n 3, 1) := by decide +kernel
theorem dX3_meetOfOthers_56 : decode cX3_meetOfOthers 56 = .ok (.lload 5, 2) := by decide +kernel
theorem dX3_meetOfOthers_58 : decode cX3_meetOfOthers 58 = .ok (.aload_n 0, 1) := by decide +kernel
theorem dX3_meetOfOthers_59 : decode cX3_meetOfOthers 59 = .ok (.getfield 20, 3) := by decide +kernel
theorem dX3_meetOfOthers_62 : decode cX3_meetOfOthers 62 = .ok (.iload_n 1, 1) := by decide +kernel
theorem dX3_meetOfOthers_63 : decode cX3_meetOfOthers 63 = .ok (.laload, 1) := by decide +kernel
theorem dX3_meetOfOthers_64 : decode cX3_meetOfOthers 64 = .ok (.aload_n 0, 1) := by decide +kernel
theorem dX3_meetOfOthers_65 : decode cX3_meetOfOthers 65 = .ok (.getfield 23, 3) := by decide +kernel
theorem dX3_meetOfOthers_68 : decode cX3_meetOfOthers 68 = .ok (.iload_n 1, 1) := by decide +kernel
theorem dX3_meetOfOthers_69 : decode cX3_meetOfOthers 69 = .ok (.laload, 1) := by decide +kernel
theorem dX3_meetOfOthers_70 : decode cX3_meetOfOthers 70 = .ok (.invokevirtual 82, 3) := by decide +kernel
theorem dX3_meetOfOthers_73 : decode cX3_meetOfOthers 73 = .ok (.aload_n 0, 1) := by decide +kernel
theorem dX3_meetOfOthers_74 : decode cX3_meetOfOthers 74 = .ok (.getfield 52, 3) := by decide +kernel
theorem dX3_meetOfOthers_77 : decode cX3_meetOfOthers 77 = .ok (.invokevirtual 86, 3) := by decide +kernel
theorem dX3_meetOfOthers_80 : decode cX3_meetOfOthers 80 = .ok (.ifCond .ge 24, 3) := by decide +kernel
theorem dX3_meetOfOthers_83 : decode cX3_meetOfOthers 83 = .ok (.aload_n 0, 1) := by decide +kernel
theorem dX3_meetOfOthers_84 : decode cX3_meetOfOthers 84 = .ok (.getfield 52, 3) := by decide +kernel
theorem dX3_meetOfOthers_87 : decode cX3_meetOfOthers 87 = .ok (.invokevirtual 175, 3) := by decide +kernel
theorem dX3_meetOfOthers_90 : decode cX3_meetOfOthers 90 = .ok (.aload_n 0, 1) := by decide +kernel
theorem dX3_meetOfOthers_91 : decode cX3_meetOfOthers 91 = .ok (.getfield 56, 3) := by decide +kernel
theorem dX3_meetOfOthers_94 : decode cX3_meetOfOthers 94 = .ok (.invokevirtual 175, 3) := by decide +kernel
theorem dX3_meetOfOthers_97 : decode cX3_meetOfOthers 97 = .ok (.aload_n 0, 1) := by decide +kernel
theorem dX3_meetOfOthers_98 : decode cX3_meetOfOthers 98 = .ok (.getfield 59, 3) := by decide +kernel
theorem dX3_meetOfOthers_101 : decode cX3_meetOfOthers 101 = .ok (.invokevirtual 175, 3) := by decide +kernel
theorem dX3_meetOfOthers_104 : decode cX3_meetOfOthers 104 = .ok (.aload_n 0, 1) := by decide +kernel
theorem dX3_meetOfOthers_105 : decode cX3_meetOfOthers 105 = .ok (.aload_n 0, 1) := by decide +kernel
theorem dX3_meetOfOthers_106 : decode cX3_meetOfOthers 106 = .ok (.getfield 56, 3) := by decide +kernel
theorem dX3_meetOfOthers_109 : decode cX3_meetOfOthers 109 = .ok (.invokevirtual 178, 3) := by decide +kernel
theorem dX3_meetOfOthers_112 : decode cX3_meetOfOthers 112 = .ok (.ifCond .eq 14, 3) := by decide +kernel
theorem dX3_meetOfOthers_115 : decode cX3_meetOfOthers 115 = .ok (.aload_n 0, 1) := by decide +kernel
theorem dX3_meetOfOthers_116 : decode cX3_meetOfOthers 116 = .ok (.aload_n 0, 1) := by decide +kernel
theorem dX3_meetOfOthers_117 : decode cX3_meetOfOthers 117 = .ok (.getfield 59, 3) := by decide +kernel
theorem dX3_meetOfOthers_120 : decode cX3_meetOfOthers 120 = .ok (.invokevirtual 178, 3) := by decide +kernel
theorem dX3_meetOfOthers_123 : decode cX3_meetOfOthers 123 = .ok (.ifCond .ne 5, 3) := by decide +kernel
theorem dX3_meetOfOthers_126 : decode cX3_meetOfOthers 126 = .ok (.iconst 0, 1) := by decide +kernel
theorem dX3_meetOfOthers_127 : decode cX3_meetOfOthers 127 = .ok (.ireturn, 1) := by decide +kernel
theorem dX3_meetOfOthers_128 : decode cX3_meetOfOthers 128 = .ok (.aload_n 0, 1) := by decide +kernel
theorem dX3_meetOfOthers_129 : decode cX3_meetOfOthers 129 = .ok (.getfield 35, 3) := by decide +kernel
theorem dX3_meetOfOthers_132 : decode cX3_meetOfOthers 132 = .ok (.aload_n 0, 1) := by decide +kernel
theorem dX3_meetOfOthers_133 : decode cX3_meetOfOthers 133 = .ok (.getfield 13, 3) := by decide +kernel
theorem dX3_meetOfOthers_136 : decode cX3_meetOfOthers 136 = .ok (.iload_n 1, 1) := by decide +kernel
theorem dX3_meetOfOthers_137 : decode cX3_meetOfOthers 137 = .ok (.laload, 1) := by decide +kernel
theorem dX3_meetOfOthers_138 : decode cX3_meetOfOthers 138 = .ok (.aload_n 0, 1) := by decide +kernel
theorem dX3_meetOfOthers_139 : decode cX3_meetOfOthers 139 = .ok (.getfield 20, 3) := by decide +kernel
theorem dX3_meetOfOthers_142 : decode cX3_meetOfOthers 142 = .ok (.iload_n 1, 1) := by decide +kernel
theorem dX3_meetOfOthers_143 : decode cX3_meetOfOthers 143 = .ok (.laload, 1) := by decide +kernel
theorem dX3_meetOfOthers_144 : decode cX3_meetOfOthers 144 = .ok (.aload_n 0, 1) := by decide +kernel
theorem dX3_meetOfOthers_145 : decode cX3_meetOfOthers 145 = .ok (.getfield 56, 3) := by decide +kernel
theorem dX3_meetOfOthers_148 : decode cX3_meetOfOthers 148 = .ok (.aload_n 0, 1) := by decide +kernel
theorem dX3_meetOfOthers_149 : decode cX3_meetOfOthers 149 = .ok (.getfield 52, 3) := by decide +kernel
theorem dX3_meetOfOthers_152 : decode cX3_meetOfOthers 152 = .ok (.invokevirtual 182, 3) := by decide +kernel
theorem dX3_meetOfOthers_155 : decode cX3_meetOfOthers 155 = .ok (.aload_n 0, 1) := by decide +kernel
theorem dX3_meetOfOthers_156 : decode cX3_meetOfOthers 156 = .ok (.getfield 35, 3) := by decide +kernel
theorem dX3_meetOfOthers_159 : decode cX3_meetOfOthers 159 = .ok (.aload_n 0, 1) := by decide +kernel
theorem dX3_meetOfOthers_160 : decode cX3_meetOfOthers 160 = .ok (.getfield 45, 3) := by decide +kernel
theorem dX3_meetOfOthers_163 : decode cX3_meetOfOthers 163 = .ok (.invokevirtual 186, 3) := by decide +kernel
theorem dX3_meetOfOthers_166 : decode cX3_meetOfOthers 166 = .ok (.aload_n 0, 1) := by decide +kernel
theorem dX3_meetOfOthers_167 : decode cX3_meetOfOthers 167 = .ok (.getfield 39, 3) := by decide +kernel
theorem dX3_meetOfOthers_170 : decode cX3_meetOfOthers 170 = .ok (.aload_n 0, 1) := by decide +kernel
theorem dX3_meetOfOthers_171 : decode cX3_meetOfOthers 171 = .ok (.getfield 17, 3) := by decide +kernel
theorem dX3_meetOfOthers_174 : decode cX3_meetOfOthers 174 = .ok (.iload_n 1, 1) := by decide +kernel
theorem dX3_meetOfOthers_175 : decode cX3_meetOfOthers 175 = .ok (.laload, 1) := by decide +kernel
theorem dX3_meetOfOthers_176 : decode cX3_meetOfOthers 176 = .ok (.aload_n 0, 1) := by decide +kernel
theorem dX3_meetOfOthers_177 : decode cX3_meetOfOthers 177 = .ok (.getfield 23, 3) := by decide +kernel
theorem dX3_meetOfOthers_180 : decode cX3_meetOfOthers 180 = .ok (.iload_n 1, 1) := by decide +kernel
theorem dX3_meetOfOthers_181 : decode cX3_meetOfOthers 181 = .ok (.laload, 1) := by decide +kernel
theorem dX3_meetOfOthers_182 : decode cX3_meetOfOthers 182 = .ok (.aload_n 0, 1) := by decide +kernel
theorem dX3_meetOfOthers_183 : decode cX3_meetOfOthers 183 = .ok (.getfield 56, 3) := by decide +kernel
theorem dX3_meetOfOthers_186 : decode cX3_meetOfOthers 186 = .ok (.aload_n 0, 1) := by decide +kernel
theorem dX3_meetOfOthers_187 : decode cX3_meetOfOthers 187 = .ok (.getfield 52, 3) := by decide +kernel
theorem dX3_meetOfOthers_190 : decode cX3_meetOfOthers 190 = .ok (.invokevirtual 182, 3) := by decide +kernel
theorem dX3_meetOfOthers_193 : decode cX3_meetOfOthers 193 = .ok (.aload_n 0, 1) := by decide +kernel
theorem dX3_meetOfOthers_194 : decode cX3_meetOfOthers 194 = .ok (.getfield 39, 3) := by decide +kernel
theorem dX3_meetOfOthers_197 : decode cX3_meetOfOthers 197 = .ok (.aload_n 0, 1) := by decide +kernel
theorem dX3_meetOfOthers_198 : decode cX3_meetOfOthers 198 = .ok (.getfield 45, 3) := by decide +kernel
theorem dX3_meetOfOthers_201 : decode cX3_meetOfOthers 201 = .ok (.invokevirtual 186, 3) := by decide +kernel
theorem dX3_meetOfOthers_204 : decode cX3_meetOfOthers 204 = .ok (.iconst 1, 1) := by decide +kernel
theorem dX3_meetOfOthers_205 : decode cX3_meetOfOthers 205 = .ok (.ireturn, 1) := by decide +kernel
theorem dX3_isPartOfSpan_0 : decode cX3_isPartOfSpan 0 = .ok (.aload_n 1, 1) := by decide +kernel
theorem dX3_isPartOfSpan_1 : decode cX3_isPartOfSpan 1 = .ok (.invokevirtual 86, 3) := by decide +kernel
theorem dX3_isPartOfSpan_4 : decode cX3_isPartOfSpan 4 = .ok (.ifCond .lt 18, 3) := by decide +kernel
theorem dX3_isPartOfSpan_7 : decode cX3_isPartOfSpan 7 = .ok (.aload_n 1, 1) := by decide +kernel
theorem dX3_isPartOfSpan_8 : decode cX3_isPartOfSpan 8 = .ok (.aload_n 0, 1) := by decide +kernel
theorem dX3_isPartOfSpan_9 : decode cX3_isPartOfSpan 9 = .ok (.getfield 52, 3) := by decide +kernel
theorem dX3_isPartOfSpan_12 : decode cX3_isPartOfSpan 12 = .ok (.invokevirtual 190, 3) := by decide +kernel
theorem dX3_isPartOfSpan_15 : decode cX3_isPartOfSpan 15 = .ok (.ifCond .gt 7, 3) := by decide +kernel
theorem dX3_isPartOfSpan_18 : decode cX3_isPartOfSpan 18 = .ok (.iconst 1, 1) := by decide +kernel
theorem dX3_isPartOfSpan_19 : decode cX3_isPartOfSpan 19 = .ok (.goto 4, 3) := by decide +kernel
theorem dX3_isPartOfSpan_22 : decode cX3_isPartOfSpan 22 = .ok (.iconst 0, 1) := by decide +kernel
theorem dX3_isPartOfSpan_23 : decode cX3_isPartOfSpan 23 = .ok (.ireturn, 1) := by decide +kernel
theorem dX3_meetOfParallels_0 : decode cX3_meetOfParallels 0 = .ok (.aload_n 0, 1) := by decide +kernel
theorem dX3_meetOfParallels_1 : decode cX3_meetOfParallels 1 = .ok (.getfield 52, 3) := by decide +kernel
theorem dX3_meetOfParallels_4 : decode cX3_meetOfParallels 4 = .ok (.aload_n 0, 1) := by decide +kernel
theorem dX3_meetOfParallels_5 : decode cX3_meetOfParallels 5 = .ok (.getfield 13, 3) := by decide +kernel
theorem dX3_meetOfParallels_8 : decode cX3_meetOfParallels 8 = .ok (.iload_n 2, 1) := by decide +kernel
theorem dX3_meetOfParallels_9 : decode cX3_meetOfParallels 9 = .ok (.laload, 1) := by decide +kernel
theorem dX3_meetOfParallels_10 : decode cX3_meetOfParallels 10 = .ok (.aload_n 0, 1) := by decide +kernel
theorem dX3_meetOfParallels_11 : decode cX3_meetOfParallels 11 = .ok (.getfield 13, 3) := by decide +kernel
theorem dX3_meetOfParallels_14 : decode cX3_meetOfParallels 14 = .ok (.iload_n 1, 1) := by decide +kernel
theorem dX3_meetOfParallels_15 : decode cX3_meetOfParallels 15 = .ok (.laload, 1) := by decide +kernel
theorem dX3_meetOfParallels_16 : decode cX3_meetOfParallels 16 = .ok (.lsub, 1) := by decide +kernel
theorem dX3_meetOfParallels_17 : decode cX3_meetOfParallels 17 = .ok (.aload_n 0, 1) := by decide +kernel
theorem dX3_meetOfParallels_18 : decode cX3_meetOfParallels 18 = .ok (.getfield 17, 3) := by decide +kernel
theorem dX3_meetOfParallels_21 : decode cX3_meetOfParallels 21 = .ok (.iload_n 2, 1) := by decide +kernel
theorem dX3_meetOfParallels_22 : decode cX3_meetOfParallels 22 = .ok (.laload, 1) := by decide +kernel
theorem dX3_meetOfParallels_23 : decode cX3_meetOfParallels 23 = .ok (.aload_n 0, 1) := by decide +kernel
theorem dX3_meetOfParallels_24 : decode cX3_meetOfParallels 24 = .ok (.getfield 17, 3) := by decide +kernel
theorem dX3_meetOfParallels_27 : decode cX3_meetOfParallels 27 = .ok (.iload_n 1, 1) := by decide +kernel
theorem dX3_meetOfParallels_28 : decode cX3_meetOfParallels 28 = .ok (.laload, 1) := by decide +kernel
theorem dX3_meetOfParallels_29 : decode cX3_meetOfParallels 29 = .ok (.lsub, 1) := by decide +kernel
theorem dX3_meetOfParallels_30 : decode cX3_meetOfParallels 30 = .ok (.aload_n 0, 1) := by decide +kernel
theorem dX3_meetOfParallels_31 : decode cX3_meetOfParallels 31 = .ok (.getfield 20, 3) := by decide +kernel
theorem dX3_meetOfParallels_34 : decode cX3_meetOfParallels 34 = .ok (.iload_n 1, 1) := by decide +kernel
theorem dX3_meetOfParallels_35 : decode cX3_meetOfParallels 35 = .ok (.laload, 1) := by decide +kernel
theorem dX3_meetOfParallels_36 : decode cX3_meetOfParallels 36 = .ok (.aload_n 0, 1) := by decide +kernel
theorem dX3_meetOfParallels_37 : decode cX3_meetOfParallels 37 = .ok (.getfield 23, 3) := by decide +kernel
theorem dX3_meetOfParallels_40 : decode cX3_meetOfParallels 40 = .ok (.iload_n 1, 1) := by decide +kernel
theorem dX3_meetOfParallels_41 : decode cX3_meetOfParallels 41 = .ok (.laload, 1) := by decide +kernel
theorem dX3_meetOfParallels_42 : decode cX3_meetOfParallels 42 = .ok (.invokevirtual 82, 3) := by decide +kernel
theorem dX3_meetOfParallels_45 : decode cX3_meetOfParallels 45 = .ok (.aload_n 0, 1) := by decide +kernel
theorem dX3_meetOfParallels_46 : decode cX3_meetOfParallels 46 = .ok (.getfield 52, 3) := by decide +kernel
theorem dX3_meetOfParallels_49 : decode cX3_meetOfParallels 49 = .ok (.invokevirtual 86, 3) := by decide +kernel
theorem dX3_meetOfParallels_52 : decode cX3_meetOfParallels 52 = .ok (.ifCond .eq 5, 3) := by decide +kernel
theorem dX3_meetOfParallels_55 : decode cX3_meetOfParallels 55 = .ok (.iconst 0, 1) := by decide +kernel
theorem dX3_meetOfParallels_56 : decode cX3_meetOfParallels 56 = .ok (.ireturn, 1) := by decide +kernel
theorem dX3_meetOfParallels_57 : decode cX3_meetOfParallels 57 = .ok (.aload_n 0, 1) := by decide +kernel
theorem dX3_meetOfParallels_58 : decode cX3_meetOfParallels 58 = .ok (.getfield 20, 3) := by decide +kernel
theorem dX3_meetOfParallels_61 : decode cX3_meetOfParallels 61 = .ok (.iload_n 1, 1) := by decide +kernel
theorem dX3_meetOfParallels_62 : decode cX3_meetOfParallels 62 = .ok (.laload, 1) := by decide +kernel
theorem dX3_meetOfParallels_63 : decode cX3_meetOfParallels 63 = .ok (.lconst 0, 1) := by decide +kernel
theorem dX3_meetOfParallels_64 : decode cX3_meetOfParallels 64 = .ok (.lcmp, 1) := by decide +kernel
theorem dX3_meetOfParallels_65 : decode cX3_meetOfParallels 65 = .ok (.ifCond .eq 7, 3) := by decide +kernel
theorem dX3_meetOfParallels_68 : decode cX3_meetOfParallels 68 = .ok (.iconst 1, 1) := by decide +kernel
theorem dX3_meetOfParallels_69 : decode cX3_meetOfParallels 69 = .ok (.goto 4, 3) := by decide +kernel
theorem dX3_meetOfParallels_72 : decode cX3_meetOfParallels 72 = .ok (.iconst 0, 1) := by decide +kernel
theorem dX3_meetOfParallels_73 : decode cX3_meetOfParallels 73 = .ok (.istore_n 3, 1) := by decide +kernel
theorem dX3_meetOfParallels_74 : decode cX3_meetOfParallels 74 = .ok (.iload_n 3, 1) := by decide +kernel
theorem dX3_meetOfParallels_75 : decode cX3_meetOfParallels 75 = .ok (.ifCond .eq 12, 3) := by decide +kernel
theorem dX3_meetOfParallels_78 : decode cX3_meetOfParallels 78 = .ok (.aload_n 0, 1) := by decide +kernel
theorem dX3_meetOfParallels_79 : decode cX3_meetOfParallels 79 = .ok (.getfield 13, 3) := by decide +kernel
theorem dX3_meetOfParallels_82 : decode cX3_meetOfParallels 82 = .ok (.iload_n 1, 1) := by decide +kernel
theorem dX3_meetOfParallels_83 : decode cX3_meetOfParallels 83 = .ok (.laload, 1) := by decide +kernel
theorem dX3_meetOfParallels_84 : decode cX3_meetOfParallels 84 = .ok (.goto 9, 3) := by decide +kernel
theorem dX3_meetOfParallels_87 : decode cX3_meetOfParallels 87 = .ok (.aload_n 0, 1) := by decide +kernel
theorem dX3_meetOfParallels_88 : decode cX3_meetOfParallels 88 = .ok (.getfield 17, 3) := by decide +kernel
theorem dX3_meetOfParallels_91 : decode cX3_meetOfParallels 91 = .ok (.iload_n 1, 1) := by decide +kernel
theorem dX3_meetOfParallels_92 : decode cX3_meetOfParallels 92 = .ok (.laload, 1) := by decide +kernel
theorem dX3_meetOfParallels_93 : decode cX3_meetOfParallels 93 = .ok (.lstore 4, 2) := by decide +kernel
theorem dX3_meetOfParallels_95 : decode cX3_meetOfParallels 95 = .ok (.lload 4, 2) := by decide +kernel
theorem dX3_meetOfParallels_97 : decode cX3_meetOfParallels 97 = .ok (.iload_n 3, 1) := by decide +kernel
theorem dX3_meetOfParallels_98 : decode cX3_meetOfParallels 98 = .ok (.ifCond .eq 12, 3) := by decide +kernel
theorem dX3_meetOfParallels_101 : decode cX3_meetOfParallels 101 = .ok (.aload_n 0, 1) := by decide +kernel
theorem dX3_meetOfParallels_102 : decode cX3_meetOfParallels 102 = .ok (.getfield 20, 3) := by decide +kernel
theorem dX3_meetOfParallels_105 : decode cX3_meetOfParallels 105 = .ok (.iload_n 1, 1) := by decide +kernel
theorem dX3_meetOfParallels_106 : decode cX3_meetOfParallels 106 = .ok (.laload, 1) := by decide +kernel
theorem dX3_meetOfParallels_107 : decode cX3_meetOfParallels 107 = .ok (.goto 9, 3) := by decide +kernel
theorem dX3_meetOfParallels_110 : decode cX3_meetOfParallels 110 = .ok (.aload_n 0, 1) := by decide +kernel
theorem dX3_meetOfParallels_111 : decode cX3_meetOfParallels 111 = .ok (.getfield 23, 3) := by decide +kernel
theorem dX3_meetOfParallels_114 : decode cX3_meetOfParallels 114 = .ok (.iload_n 1, 1) := by decide +kernel
theorem dX3_meetOfParallels_115 : decode cX3_meetOfParallels 115 = .ok (.laload, 1) := by decide +kernel
theorem dX3_meetOfParallels_116 : decode cX3_meetOfParallels 116 = .ok (.ladd, 1) := by decide +kernel
theorem dX3_meetOfParallels_117 : decode cX3_meetOfParallels 117 = .ok (.lstore 6, 2) := by decide +kernel
theorem dX3_meetOfParallels_119 : decode cX3_meetOfParallels 119 = .ok (.iload_n 3, 1) := by decide +kernel
theorem dX3_meetOfParallels_120 : decode cX3_meetOfParallels 120 = .ok (.ifCond .eq 12, 3) := by decide +kernel
theorem dX3_meetOfParallels_123 : decode cX3_meetOfParallels 123 = .ok (.aload_n 0, 1) := by decide +kernel
theorem dX3_meetOfParallels_124 : decode cX3_meetOfParallels 124 = .ok (.getfield 13, 3) := by decide +kernel
theorem dX3_meetOfParallels_127 : decode cX3_meetOfParallels 127 = .ok (.iload_n 2, 1) := by decide +kernel
theorem dX3_meetOfParallels_128 : decode cX3_meetOfParallels 128 = .ok (.laload, 1) := by decide +kernel
theorem dX3_meetOfParallels_129 : decode cX3_meetOfParallels 129 = .ok (.goto 9, 3) := by decide +kernel
theorem dX3_meetOfParallels_132 : decode cX3_meetOfParallels 132 = .ok (.aload_n 0, 1) := by decide +kernel
theorem dX3_meetOfParallels_133 : decode cX3_meetOfParallels 133 = .ok (.getfield 17, 3) := by decide +kernel
theorem dX3_meetOfParallels_136 : decode cX3_meetOfParallels 136 = .ok (.iload_n 2, 1) := by decide +kernel
theorem dX3_meetOfParallels_137 : decode cX3_meetOfParallels 137 = .ok (.laload, 1) := by decide +kernel
theorem dX3_meetOfParallels_138 : decode cX3_meetOfParallels 138 = .ok (.lstore 8, 2) := by decide +kernel
theorem dX3_meetOfParallels_140 : decode cX3_meetOfParallels 140 = .ok (.lload 8, 2) := by decide +kernel
theorem dX3_meetOfParallels_142 : decode cX3_meetOfParallels 142 = .ok (.iload_n 3, 1) := by decide +kernel
theorem dX3_meetOfParallels_143 : decode cX3_meetOfParallels 143 = .ok (.ifCond .eq 12, 3) := by decide +kernel
theorem dX3_meetOfParallels_146 : decode cX3_meetOfParallels 146 = .ok (.aload_n 0, 1) := by decide +kernel
theorem dX3_meetOfParallels_147 : decode cX3_meetOfParallels 147 = .ok (.getfield 20, 3) := by decide +kernel
theorem dX3_meetOfParallels_150 : decode cX3_meetOfParallels 150 = .ok (.iload_n 2, 1) := by decide +kernel
theorem dX3_meetOfParallels_151 : decode cX3_meetOfParallels 151 = .ok (.laload, 1) := by decide +kernel
theorem dX3_meetOfParallels_152 : decode cX3_meetOfParallels 152 = .ok (.goto 9, 3) := by decide +kernel
theorem dX3_meetOfParallels_155 : decode cX3_meetOfParallels 155 = .ok (.aload_n 0, 1) := by decide +kernel
theorem dX3_meetOfParallels_156 : decode cX3_meetOfParallels 156 = .ok (.getfield 23, 3) := by decide +kernel
theorem dX3_meetOfParallels_159 : decode cX3_meetOfParallels 159 = .ok (.iload_n 2, 1) := by decide +kernel
theorem dX3_meetOfParallels_160 : decode cX3_meetOfParallels 160 = .ok (.laload, 1) := by decide +kernel
theorem dX3_meetOfParallels_161 : decode cX3_meetOfParallels 161 = .ok (.ladd, 1) := by decide +kernel
theorem dX3_meetOfParallels_162 : decode cX3_meetOfParallels 162 = .ok (.lstore 10, 2) := by decide +kernel
theorem dX3_meetOfParallels_164 : decode cX3_meetOfParallels 164 = .ok (.lload 4, 2) := by decide +kernel
theorem dX3_meetOfParallels_166 : decode cX3_meetOfParallels 166 = .ok (.lload 6, 2) := by decide +kernel
theorem dX3_meetOfParallels_168 : decode cX3_meetOfParallels 168 = .ok (.invokestatic 169, 3) := by decide +kernel
theorem dX3_meetOfParallels_171 : decode cX3_meetOfParallels 171 = .ok (.lload 8, 2) := by decide +kernel
theorem dX3_meetOfParallels_173 : decode cX3_meetOfParallels 173 = .ok (.lload 10, 2) := by decide +kernel
theorem dX3_meetOfParallels_175 : decode cX3_meetOfParallels 175 = .ok (.invokestatic 169, 3) := by decide +kernel
theorem dX3_meetOfParallels_178 : decode cX3_meetOfParallels 178 = .ok (.invokestatic 172, 3) := by decide +kernel
theorem dX3_meetOfParallels_181 : decode cX3_meetOfParallels 181 = .ok (.lstore 12, 2) := by decide +kernel
theorem dX3_meetOfParallels_183 : decode cX3_meetOfParallels 183 = .ok (.lload 4, 2) := by decide +kernel
theorem dX3_meetOfParallels_185 : decode cX3_meetOfParallels 185 = .ok (.lload 6, 2) := by decide +kernel
theorem dX3_meetOfParallels_187 : decode cX3_meetOfParallels 187 = .ok (.invokestatic 172, 3) := by decide +kernel
theorem dX3_meetOfParallels_190 : decode cX3_meetOfParallels 190 = .ok (.lload 8, 2) := by decide +kernel
theorem dX3_meetOfParallels_192 : decode cX3_meetOfParallels 192 = .ok (.lload 10, 2) := by decide +kernel
theorem dX3_meetOfParallels_194 : decode cX3_meetOfParallels 194 = .ok (.invokestatic 172, 3) := by decide +kernel
theorem dX3_meetOfParallels_197 : decode cX3_meetOfParallels 197 = .ok (.invokestatic 169, 3) := by decide +kernel
theorem dX3_meetOfParallels_200 : decode cX3_meetOfParallels 200 = .ok (.lstore 14, 2) := by decide +kernel
theorem dX3_meetOfParallels_202 : decode cX3_meetOfParallels 202 = .ok (.lload 12, 2) := by decide +kernel
theorem dX3_meetOfParallels_204 : decode cX3_meetOfParallels 204 = .ok (.lload 14, 2) := by decide +kernel
theorem dX3_meetOfParallels_206 : decode cX3_meetOfParallels 206 = .ok (.lcmp, 1) := by decide +kernel
theorem dX3_meetOfParallels_207 : decode cX3_meetOfParallels 207 = .ok (.ifCond .eq 17, 3) := by decide +kernel
theorem dX3_meetOfParallels_210 : decode cX3_meetOfParallels 210 = .ok (.lload 12, 2) := by decide +kernel
theorem dX3_meetOfParallels_212 : decode cX3_meetOfParallels 212 = .ok (.lload 14, 2) := by decide +kernel
theorem dX3_meetOfParallels_214 : decode cX3_meetOfParallels 214 = .ok (.lcmp, 1) := by decide +kernel
theorem dX3_meetOfParallels_215 : decode cX3_meetOfParallels 215 = .ok (.ifCond .le 7, 3) := by decide +kernel
theorem dX3_meetOfParallels_218 : decode cX3_meetOfParallels 218 = .ok (.iconst 0, 1) := by decide +kernel
theorem dX3_meetOfParallels_219 : decode cX3_meetOfParallels 219 = .ok (.goto 4, 3) := by decide +kernel
theorem dX3_meetOfParallels_222 : decode cX3_meetOfParallels 222 = .ok (.iconst 2, 1) := by decide +kernel
theorem dX3_meetOfParallels_223 : decode cX3_meetOfParallels 223 = .ok (.ireturn, 1) := by decide +kernel
theorem dX3_meetOfParallels_224 : decode cX3_meetOfParallels 224 = .ok (.lload 4, 2) := by decide +kernel
theorem dX3_meetOfParallels_226 : decode cX3_meetOfParallels 226 = .ok (.lload 12, 2) := by decide +kernel
theorem dX3_meetOfParallels_228 : decode cX3_meetOfParallels 228 = .ok (.lcmp, 1) := by decide +kernel
theorem dX3_meetOfParallels_229 : decode cX3_meetOfParallels 229 = .ok (.ifCond .ne 7, 3) := by decide +kernel
theorem dX3_meetOfParallels_232 : decode cX3_meetOfParallels 232 = .ok (.iconst 1, 1) := by decide +kernel
theorem dX3_meetOfParallels_233 : decode cX3_meetOfParallels 233 = .ok (.goto 4, 3) := by decide +kernel
theorem dX3_meetOfParallels_236 : decode cX3_meetOfParallels 236 = .ok (.iconst 0, 1) := by decide +kernel
theorem dX3_meetOfParallels_237 : decode cX3_meetOfParallels 237 = .ok (.istore 16, 2) := by decide +kernel
theorem dX3_meetOfParallels_239 : decode cX3_meetOfParallels 239 = .ok (.aload_n 0, 1) := by decide +kernel
theorem dX3_meetOfParallels_240 : decode cX3_meetOfParallels 240 = .ok (.getfield 35, 3) := by decide +kernel
theorem dX3_meetOfParallels_243 : decode cX3_meetOfParallels 243 = .ok (.iload 16, 2) := by decide +kernel
theorem dX3_meetOfParallels_245 : decode cX3_meetOfParallels 245 = .ok (.ifCond .eq 12, 3) := by decide +kernel
theorem dX3_meetOfParallels_248 : decode cX3_meetOfParallels 248 = .ok (.aload_n 0, 1) := by decide +kernel
theorem dX3_meetOfParallels_249 : decode cX3_meetOfParallels 249 = .ok (.getfield 13, 3) := by decide +kernel
theorem dX3_meetOfParallels_252 : decode cX3_meetOfParallels 252 = .ok (.iload_n 1, 1) := by decide +kernel
theorem dX3_meetOfParallels_253 : decode cX3_meetOfParallels 253 = .ok (.laload, 1) := by decide +kernel
theorem dX3_meetOfParallels_254 : decode cX3_meetOfParallels 254 = .ok (.goto 16, 3) := by decide +kernel
theorem dX3_meetOfParallels_257 : decode cX3_meetOfParallels 257 = .ok (.aload_n 0, 1) := by decide +kernel
theorem dX3_meetOfParallels_258 : decode cX3_meetOfParallels 258 = .ok (.getfield 13, 3) := by decide +kernel
theorem dX3_meetOfParallels_261 : decode cX3_meetOfParallels 261 = .ok (.iload_n 1, 1) := by decide +kernel
theorem dX3_meetOfParallels_262 : decode cX3_meetOfParallels 262 = .ok (.laload, 1) := by decide +kernel
theorem dX3_meetOfParallels_263 : decode cX3_meetOfParallels 263 = .ok (.aload_n 0, 1) := by decide +kernel
theorem dX3_meetOfParallels_264 : decode cX3_meetOfParallels 264 = .ok (.getfield 20, 3) := by decide +kernel
theorem dX3_meetOfParallels_267 : decode cX3_meetOfParallels 267 = .ok (.iload_n 1, 1) := by decide +kernel
theorem dX3_meetOfParallels_268 : decode cX3_meetOfParallels 268 = .ok (.laload, 1) := by decide +kernel
theorem dX3_meetOfParallels_269 : decode cX3_meetOfParallels 269 = .ok (.ladd, 1) := by decide +kernel
theorem dX3_meetOfParallels_270 : decode cX3_meetOfParallels 270 = .ok (.invokevirtual 194, 3) := by decide +kernel
theorem dX3_meetOfParallels_273 : decode cX3_meetOfParallels 273 = .ok (.aload_n 0, 1) := by decide +kernel
theorem dX3_meetOfParallels_274 : decode cX3_meetOfParallels 274 = .ok (.getfield 39, 3) := by decide +kernel
theorem dX3_meetOfParallels_277 : decode cX3_meetOfParallels 277 = .ok (.iload 16, 2) := by decide +kernel
theorem dX3_meetOfParallels_279 : decode cX3_meetOfParallels 279 = .ok (.ifCond .eq 12, 3) := by decide +kernel
theorem dX3_meetOfParallels_282 : decode cX3_meetOfParallels 282 = .ok (.aload_n 0, 1) := by decide +kernel
theorem dX3_meetOfParallels_283 : decode cX3_meetOfParallels 283 = .ok (.getfield 17, 3) := by decide +kernel
theorem dX3_meetOfParallels_286 : decode cX3_meetOfParallels 286 = .ok (.iload_n 1, 1) := by decide +kernel
theorem dX3_meetOfParallels_287 : decode cX3_meetOfParallels 287 = .ok (.laload, 1) := by decide +kernel
theorem dX3_meetOfParallels_288 : decode cX3_meetOfParallels 288 = .ok (.goto 16, 3) := by decide +kernel
theorem dX3_meetOfParallels_291 : decode cX3_meetOfParallels 291 = .ok (.aload_n 0, 1) := by decide +kernel
theorem dX3_meetOfParallels_292 : decode cX3_meetOfParallels 292 = .ok (.getfield 17, 3) := by decide +kernel
theorem dX3_meetOfParallels_295 : decode cX3_meetOfParallels 295 = .ok (.iload_n 1, 1) := by decide +kernel
theorem dX3_meetOfParallels_296 : decode cX3_meetOfParallels 296 = .ok (.laload, 1) := by decide +kernel
theorem dX3_meetOfParallels_297 : decode cX3_meetOfParallels 297 = .ok (.aload_n 0, 1) := by decide +kernel
theorem dX3_meetOfParallels_298 : decode cX3_meetOfParallels 298 = .ok (.getfield 23, 3) := by decide +kernel
theorem dX3_meetOfParallels_301 : decode cX3_meetOfParallels 301 = .ok (.iload_n 1, 1) := by decide +kernel
theorem dX3_meetOfParallels_302 : decode cX3_meetOfParallels 302 = .ok (.laload, 1) := by decide +kernel
theorem dX3_meetOfParallels_303 : decode cX3_meetOfParallels 303 = .ok (.ladd, 1) := by decide +kernel
theorem dX3_meetOfParallels_304 : decode cX3_meetOfParallels 304 = .ok (.invokevirtual 194, 3) := by decide +kernel
theorem dX3_meetOfParallels_307 : decode cX3_meetOfParallels 307 = .ok (.iconst 1, 1) := by decide +kernel
theorem dX3_meetOfParallels_308 : decode cX3_meetOfParallels 308 = .ok (.ireturn, 1) := by decide +kernel
theorem dX3_ratioByRule_0 : decode cX3_ratioByRule 0 = .ok (.iload 7, 2) := by decide +kernel
theorem dX3_ratioByRule_2 : decode cX3_ratioByRule 2 = .ok (.ifCond .lt 10, 3) := by decide +kernel
theorem dX3_ratioByRule_5 : decode cX3_ratioByRule 5 = .ok (.iload 7, 2) := by decide +kernel
theorem dX3_ratioByRule_7 : decode cX3_ratioByRule 7 = .ok (.bipush 6, 2) := by decide +kernel
theorem dX3_ratioByRule_9 : decode cX3_ratioByRule 9 = .ok (.if_icmp .le 7, 3) := by decide +kernel
theorem dX3_ratioByRule_12 : decode cX3_ratioByRule 12 = .ok (.ldc2_w 100, 3) := by decide +kernel
theorem dX3_ratioByRule_15 : decode cX3_ratioByRule 15 = .ok (.lreturn, 1) := by decide +kernel
theorem dX3_ratioByRule_16 : decode cX3_ratioByRule 16 = .ok (.lload 5, 2) := by decide +kernel
theorem dX3_ratioByRule_18 : decode cX3_ratioByRule 18 = .ok (.lconst 0, 1) := by decide +kernel
theorem dX3_ratioByRule_19 : decode cX3_ratioByRule 19 = .ok (.lcmp, 1) := by decide +kernel
theorem dX3_ratioByRule_20 : decode cX3_ratioByRule 20 = .ok (.ifCond .ne 13, 3) := by decide +kernel
theorem dX3_ratioByRule_23 : decode cX3_ratioByRule 23 = .ok (.new 197, 3) := by decide +kernel
theorem dX3_ratioByRule_26 : decode cX3_ratioByRule 26 = .ok (.dup, 1) := by decide +kernel
theorem dX3_ratioByRule_27 : decode cX3_ratioByRule 27 = .ok (.ldc 199, 2) := by decide +kernel
theorem dX3_ratioByRule_29 : decode cX3_ratioByRule 29 = .ok (.invokespecial 201, 3) := by decide +kernel
theorem dX3_ratioByRule_32 : decode cX3_ratioByRule 32 = .ok (.athrow, 1) := by decide +kernel
theorem dX3_ratioByRule_33 : decode cX3_ratioByRule 33 = .ok (.aload_n 0, 1) := by decide +kernel
theorem dX3_ratioByRule_34 : decode cX3_ratioByRule 34 = .ok (.getfield 56, 3) := by decide +kernel
theorem dX3_ratioByRule_37 : decode cX3_ratioByRule 37 = .ok (.lconst 0, 1) := by decide +kernel
theorem dX3_ratioByRule_38 : decode cX3_ratioByRule 38 = .ok (.invokevirtual 116, 3) := by decide +kernel
theorem dX3_ratioByRule_41 : decode cX3_ratioByRule 41 = .ok (.aload_n 0, 1) := by decide +kernel
theorem dX3_ratioByRule_42 : decode cX3_ratioByRule 42 = .ok (.getfield 56, 3) := by decide +kernel
theorem dX3_ratioByRule_45 : decode cX3_ratioByRule 45 = .ok (.lload_n 1, 1) := by decide +kernel
theorem dX3_ratioByRule_46 : decode cX3_ratioByRule 46 = .ok (.lload_n 3, 1) := by decide +kernel
theorem dX3_ratioByRule_47 : decode cX3_ratioByRule 47 = .ok (.invokevirtual 139, 3) := by decide +kernel
theorem dX3_ratioByRule_50 : decode cX3_ratioByRule 50 = .ok (.aload_n 0, 1) := by decide +kernel
theorem dX3_ratioByRule_51 : decode cX3_ratioByRule 51 = .ok (.getfield 59, 3) := by decide +kernel
theorem dX3_ratioByRule_54 : decode cX3_ratioByRule 54 = .ok (.lload 5, 2) := by decide +kernel
theorem dX3_ratioByRule_56 : decode cX3_ratioByRule 56 = .ok (.invokevirtual 116, 3) := by decide +kernel
theorem dX3_ratioByRule_59 : decode cX3_ratioByRule 59 = .ok (.aload_n 0, 1) := by decide +kernel
theorem dX3_ratioByRule_60 : decode cX3_ratioByRule 60 = .ok (.getfield 45, 3) := by decide +kernel
theorem dX3_ratioByRule_63 : decode cX3_ratioByRule 63 = .ok (.aload_n 0, 1) := by decide +kernel
theorem dX3_ratioByRule_64 : decode cX3_ratioByRule 64 = .ok (.getfield 56, 3) := by decide +kernel
theorem dX3_ratioByRule_67 : decode cX3_ratioByRule 67 = .ok (.aload_n 0, 1) := by decide +kernel
theorem dX3_ratioByRule_68 : decode cX3_ratioByRule 68 = .ok (.getfield 59, 3) := by decide +kernel
theorem dX3_ratioByRule_71 : decode cX3_ratioByRule 71 = .ok (.iload 7, 2) := by decide +kernel
theorem dX3_ratioByRule_73 : decode cX3_ratioByRule 73 = .ok (.invokevirtual 108, 3) := by decide +kernel
theorem dX3_ratioByRule_76 : decode cX3_ratioByRule 76 = .ok (.lreturn, 1) := by decide +kernel
theorem dX3_limbOf_0 : decode cX3_limbOf 0 = .ok (.iload_n 1, 1) := by decide +kernel
theorem dX3_limbOf_1 : decode cX3_limbOf 1 = .ok (.iconst (-1), 1) := by decide +kernel
theorem dX3_limbOf_2 : decode cX3_limbOf 2 = .ok (.if_icmp .ne 9, 3) := by decide +kernel
theorem dX3_limbOf_5 : decode cX3_limbOf 5 = .ok (.aload_n 0, 1) := by decide +kernel
theorem dX3_limbOf_6 : decode cX3_limbOf 6 = .ok (.invokevirtual 86, 3) := by decide +kernel
theorem dX3_limbOf_9 : decode cX3_limbOf 9 = .ok (.i2l, 1) := by decide +kernel
theorem dX3_limbOf_10 : decode cX3_limbOf 10 = .ok (.lreturn, 1) := by decide +kernel
theorem dX3_limbOf_11 : decode cX3_limbOf 11 = .ok (.iload_n 1, 1) := by decide +kernel
theorem dX3_limbOf_12 : decode cX3_limbOf 12 = .ok (.ifCond .lt 11, 3) := by decide +kernel
theorem dX3_limbOf_15 : decode cX3_limbOf 15 = .ok (.iload_n 1, 1) := by decide +kernel
theorem dX3_limbOf_16 : decode cX3_limbOf 16 = .ok (.aload_n 0, 1) := by decide +kernel
theorem dX3_limbOf_17 : decode cX3_limbOf 17 = .ok (.invokevirtual 202, 3) := by decide +kernel
theorem dX3_limbOf_20 : decode cX3_limbOf 20 = .ok (.if_icmp .lt 13, 3) := by decide +kernel
theorem dX3_limbOf_23 : decode cX3_limbOf 23 = .ok (.new 144, 3) := by decide +kernel
theorem dX3_limbOf_26 : decode cX3_limbOf 26 = .ok (.dup, 1) := by decide +kernel
theorem dX3_limbOf_27 : decode cX3_limbOf 27 = .ok (.ldc 205, 2) := by decide +kernel
theorem dX3_limbOf_29 : decode cX3_limbOf 29 = .ok (.invokespecial 148, 3) := by decide +kernel
theorem dX3_limbOf_32 : decode cX3_limbOf 32 = .ok (.athrow, 1) := by decide +kernel
theorem dX3_limbOf_33 : decode cX3_limbOf 33 = .ok (.aload_n 0, 1) := by decide +kernel
theorem dX3_limbOf_34 : decode cX3_limbOf 34 = .ok (.iload_n 1, 1) := by decide +kernel
theorem dX3_limbOf_35 : decode cX3_limbOf 35 = .ok (.invokevirtual 207, 3) := by decide +kernel
theorem dX3_limbOf_38 : decode cX3_limbOf 38 = .ok (.lreturn, 1) := by decide +kernel
end
section
/-! Int64 without sign: the family uN of kit/laws/BITS.to-paste (a starting text) -/
def uN (x : Int64) : Nat := x.toUInt64.toNat
theorem uN_lt (x : Int64) : uN x < 18446744073709551616 := x.toUInt64.toNat_lt
theorem uN_inj {x y : Int64} (h : uN x = uN y) : x = y := congrArg UInt64.toInt64 (UInt64.toNat_inj.mp h)
theorem uN_add (x y : Int64) : uN (x + y) = (uN x + uN y) % 18446744073709551616 := by
  show (x.toUInt64 + y.toUInt64).toNat = _
  exact UInt64.toNat_add _ _
theorem uN_mul (x y : Int64) : uN (x * y) = (uN x * uN y) % 18446744073709551616 := by
  show (x.toUInt64 * y.toUInt64).toNat = _
  exact UInt64.toNat_mul _ _
theorem uN_shl (x : Int64) : uN (x <<< ((1 : Int32).toInt64 &&& 63)) = (2 * uN x) % 18446744073709551616 := by
  have h : (((1 : Int32).toInt64 &&& 63).toBitVec.smod 64).toNat = 1 := by decide
  show (x.toBitVec <<< (((1 : Int32).toInt64 &&& 63).toBitVec.smod 64).toNat).toNat = _
  rw [h, BitVec.toNat_shiftLeft, Nat.shiftLeft_eq, Nat.mul_comm]
  rfl
theorem uN_shr (x : Int64) (s : UInt64) : uN (x.toUInt64 >>> s).toInt64 = uN x / 2 ^ (s.toNat % 64) := by
  show (x.toUInt64 >>> s).toNat = _
  rw [UInt64.toNat_shiftRight, Nat.shiftRight_eq_div_pow]
  rfl
theorem uN_s32 (x : Int64) : uN (x.toUInt64 >>> ((32 : Int32).toInt64.toUInt64 &&& Int64.toUInt64 63)).toInt64 = uN x / 4294967296 := by
  have h : ((32 : Int32).toInt64.toUInt64 &&& Int64.toUInt64 63).toNat % 64 = 32 := by decide
  rw [uN_shr, h]
theorem uN_s63 (x : Int64) : uN (x.toUInt64 >>> ((63 : Int32).toInt64.toUInt64 &&& Int64.toUInt64 63)).toInt64 = uN x / 9223372036854775808 := by
  have h : ((63 : Int32).toInt64.toUInt64 &&& Int64.toUInt64 63).toNat % 64 = 63 := by decide
  rw [uN_shr, h]
theorem uN_lo (x : Int64) : uN (x &&& 4294967295) = uN x % 4294967296 := by
  show (x.toUInt64 &&& Int64.toUInt64 4294967295).toNat = _
  rw [UInt64.toNat_and]
  exact Nat.and_two_pow_sub_one_eq_mod _ 32
theorem uN_bit (x : Int64) : (x &&& 1) = 0 ↔ uN x % 2 = 0 := by
  have h : uN (x &&& 1) = uN x % 2 := by
    show (x.toUInt64 &&& Int64.toUInt64 1).toNat = _
    rw [UInt64.toNat_and]
    exact Nat.and_two_pow_sub_one_eq_mod _ 1
  rw [← h]
  exact ⟨fun z => by rw [z]; rfl, fun z => uN_inj (z.trans rfl)⟩
theorem uN_or {x y : Int64} (hy : uN y < 2) : uN ((x <<< ((1 : Int32).toInt64 &&& 63)) ||| y) = (2 * uN x) % 18446744073709551616 + uN y := by
  have h1 : uN ((x <<< ((1 : Int32).toInt64 &&& 63)) ||| y) = uN (x <<< ((1 : Int32).toInt64 &&& 63)) ||| uN y := UInt64.toNat_or _ _
  have h2 : (2 * uN x) % 18446744073709551616 = 2 ^ 1 * (uN x % 9223372036854775808) := by omega
  rw [h1, uN_shl, h2]
  exact (Nat.two_pow_add_eq_or_of_lt (i := 1) hy _).symm
theorem nat_xor {a : Nat} (h : a < 18446744073709551616) : a ^^^ 2 ^ 63 = (a + 9223372036854775808) % 18446744073709551616 := by
  have h1 : (a ^^^ 2 ^ 63) % 2 ^ 63 = a % 2 ^ 63 := by rw [Nat.xor_mod_two_pow, Nat.mod_self, Nat.xor_zero]
  have h2 : (a ^^^ 2 ^ 63) / 2 ^ 63 = (a / 2 ^ 63) ^^^ 1 := by rw [Nat.xor_div_two_pow, Nat.div_self (Nat.two_pow_pos 63)]
  have h3 : a / 2 ^ 63 = 0 ∨ a / 2 ^ 63 = 1 := by omega
  generalize a ^^^ 2 ^ 63 = t at h1 h2
  rcases h3 with h3 | h3
  · rw [h3] at h2
    have h2 : t / 2 ^ 63 = 1 := h2
    omega
  · rw [h3] at h2
    have h2 : t / 2 ^ 63 = 0 := h2
    omega
theorem uN_xor (x : Int64) : uN (x ^^^ (-9223372036854775808)) = (uN x + 9223372036854775808) % 18446744073709551616 := by
  rw [← nat_xor (uN_lt x)]
  exact UInt64.toNat_xor _ _
theorem uN_int (x : Int64) : x.toInt = if 2 * uN x < 18446744073709551616 then (uN x : Int) else (uN x : Int) - 18446744073709551616 := BitVec.toInt_eq_toNat_cond _
theorem uN_le (x y : Int64) : (x ^^^ (-9223372036854775808)) ≤ (y ^^^ (-9223372036854775808)) ↔ uN x ≤ uN y := by
  have hx := uN_lt x
  have hy := uN_lt y
  rw [Int64.le_iff_toInt_le, uN_int, uN_int, uN_xor, uN_xor]
  omega
theorem uN_sk (x : Int64) {k : Nat} (hk : k < 64) : uN (x.toUInt64 >>> ((nI k).toInt64.toUInt64 &&& Int64.toUInt64 63)).toInt64 = uN x / 2 ^ k := by
  have h : ((nI k).toInt64.toUInt64 &&& Int64.toUInt64 63).toNat % 64 = k := by
    rw [nI_l (by omega), UInt64.toNat_and]
    have e : (lN k).toUInt64.toNat = k % 2 ^ 64 := rfl
    have e2 : (Int64.toUInt64 63).toNat = 2 ^ 6 - 1 := by decide
    rw [e, e2, Nat.and_two_pow_sub_one_eq_mod]
    omega
  rw [uN_shr, h]
/-! wide numbers: two longs as one number of 128 bits -/
def wv (h l : Int64) : Int := h.toInt * 18446744073709551616 + (uN l : Int)
def In (z : Int) : Prop := -170141183460469231731687303715884105728 ≤ z ∧ z < 170141183460469231731687303715884105728
def sg (z : Int) : Int32 := if z < 0 then -1 else if z = 0 then 0 else 1
def cm (a b : Int) : Int32 := if a < b then -1 else if a = b then 0 else 1
def bz (p : Prop) [Decidable p] : Int32 := if p then 1 else 0
theorem bz_t {p : Prop} [Decidable p] (h : p) : 1 = bz p := by simp [bz, h]
theorem bz_f {p : Prop} [Decidable p] (h : ¬ p) : 0 = bz p := by simp [bz, h]
theorem bz_nar {p : Prop} [Decidable p] : narrow .boolean (.int (bz p)) = .int (bz p) := by
  by_cases h : p
  · rw [show bz p = 1 by simp [bz, h]]; rfl
  · rw [show bz p = 0 by simp [bz, h]]; rfl
theorem sI_rng (x : Int64) : -9223372036854775808 ≤ x.toInt ∧ x.toInt < 9223372036854775808 := ⟨x.le_toInt, x.toInt_lt⟩
theorem uN_of (x : Int64) : (uN x : Int) = x.toInt % 18446744073709551616 := by
  have h := uN_int x
  have h1 := uN_lt x
  split at h <;> omega
theorem wv_in (h l : Int64) : In (wv h l) := by
  have h1 := sI_rng h
  have h2 := uN_lt l
  unfold wv In
  omega
theorem wv_inj {h l h2 l2 : Int64} (e : wv h l = wv h2 l2) : h = h2 ∧ l = l2 := by
  have a1 := uN_lt l
  have a2 := uN_lt l2
  unfold wv at e
  have e1 : h.toInt = h2.toInt := by omega
  exact ⟨Int64.toInt_inj.mp e1, uN_inj (by omega)⟩
theorem wv_put0 {v : Int64} (c : (0 : Int64) ≤ v) : wv 0 v = v.toInt := by
  have h := uN_int v
  have c1 : (0 : Int64).toInt ≤ v.toInt := Int64.le_iff_toInt_le.mp c
  have h1 := uN_lt v
  rw [show (0 : Int64).toInt = 0 from rfl] at c1
  unfold wv
  rw [show (0 : Int64).toInt = 0 from rfl]
  split at h <;> omega
theorem wv_putm {v : Int64} (c : ¬ (0 : Int64) ≤ v) : wv (-1) v = v.toInt := by
  have h := uN_int v
  have c1 : ¬ (0 : Int64).toInt ≤ v.toInt := fun q => c (Int64.le_iff_toInt_le.mpr q)
  have h1 := uN_lt v
  rw [show (0 : Int64).toInt = 0 from rfl] at c1
  unfold wv
  rw [show (-1 : Int64).toInt = -1 from rfl]
  split at h <;> omega
theorem i64_ne0 {x : Int64} (h : ¬ x = 0) : x.toInt ≠ 0 := fun q => h (Int64.toInt_inj.mp (q.trans rfl))
theorem u64_ne0 {x : Int64} (h : ¬ x = 0) : uN x ≠ 0 := fun q => h (uN_inj (q.trans rfl))
theorem i64_lt {x y : Int64} : x < y ↔ x.toInt < y.toInt := Int64.lt_iff_toInt_lt
theorem i64_le {x y : Int64} : x ≤ y ↔ x.toInt ≤ y.toInt := Int64.le_iff_toInt_le
theorem i64_eq {x y : Int64} : x = y ↔ x.toInt = y.toInt := Int64.toInt_inj.symm
theorem t0 : (0 : Int64).toInt = 0 := rfl
theorem t1 : (1 : Int64).toInt = 1 := rfl
theorem tm1 : (-1 : Int64).toInt = -1 := rfl
theorem un0 : uN 0 = 0 := rfl
theorem un1 : uN 1 = 1 := rfl
/-! sign -/
theorem sg_h1 {h l : Int64} (a : ¬ h = 0) (b : h < 0) : sg (wv h l) = -1 := by
  rw [i64_lt, t0] at b
  have := uN_lt l
  unfold sg wv
  rw [if_pos (by omega)]
theorem sg_h2 {h l : Int64} (a : ¬ h = 0) (b : ¬ h < 0) : sg (wv h l) = 1 := by
  rw [i64_lt, t0] at b
  have := uN_lt l
  have := i64_ne0 a
  unfold sg wv
  rw [if_neg (by omega), if_neg (by omega)]
theorem sg_l1 {h l : Int64} (a : h = 0) (b : l = 0) : sg (wv h l) = 0 := by
  subst a; subst b; rfl
theorem sg_l2 {h l : Int64} (a : h = 0) (b : ¬ l = 0) : sg (wv h l) = 1 := by
  subst a
  have := u64_ne0 b
  unfold sg wv
  rw [t0, if_neg (by omega), if_neg (by omega)]
/-! compare -/
theorem cm_h1 {h l h2 l2 : Int64} (a : ¬ h = h2) (b : h < h2) : cm (wv h l) (wv h2 l2) = -1 := by
  rw [i64_lt] at b
  have := uN_lt l
  have := uN_lt l2
  unfold cm wv
  rw [if_pos (by omega)]
theorem cm_h2 {h l h2 l2 : Int64} (a : ¬ h = h2) (b : ¬ h < h2) : cm (wv h l) (wv h2 l2) = 1 := by
  rw [i64_lt] at b
  rw [i64_eq] at a
  have := uN_lt l
  have := uN_lt l2
  unfold cm wv
  rw [if_neg (by omega), if_neg (by omega)]
theorem cm_e {h l h2 l2 : Int64} (a : h = h2) (b : l = l2) : cm (wv h l) (wv h2 l2) = 0 := by
  subst a; subst b
  unfold cm
  rw [if_neg (by omega), if_pos rfl]
theorem cm_l1 {h l h2 l2 : Int64} (a : h = h2) (c : uN l < uN l2) : cm (wv h l) (wv h2 l2) = -1 := by
  subst a
  unfold cm wv
  rw [if_pos (by omega)]
theorem cm_l2 {h l h2 l2 : Int64} (a : h = h2) (b : ¬ l = l2) (c : ¬ uN l < uN l2) : cm (wv h l) (wv h2 l2) = 1 := by
  subst a
  have : uN l ≠ uN l2 := fun q => b (uN_inj q)
  unfold cm wv
  rw [if_neg (by omega), if_neg (by omega)]
theorem below_iff (a b : Int64) : (a ^^^ (-9223372036854775808)) < (b ^^^ (-9223372036854775808)) ↔ uN a < uN b := by
  have h := uN_le b a
  rw [Int64.le_iff_toInt_le] at h
  rw [Int64.lt_iff_toInt_lt]
  omega
/-! arithmetic -/
theorem uN_neg (x : Int64) : uN (-x) = (18446744073709551616 - uN x) % 18446744073709551616 := by
  have h1 : (-x).toInt = (-x.toInt).bmod (2 ^ 64) := Int64.toInt_neg x
  have h2 := uN_of x
  have h3 := uN_of (-x)
  have h4 := uN_lt x
  have h5 : (-x).toInt % 18446744073709551616 = (-x.toInt) % 18446744073709551616 := by rw [h1]; exact Int.bmod_emod
  omega
theorem uN_sub (x y : Int64) : uN (x - y) = (uN x + (18446744073709551616 - uN y)) % 18446744073709551616 := by
  have h1 : (x - y).toInt = (x.toInt - y.toInt).bmod (2 ^ 64) := Int64.toInt_sub x y
  have h2 := uN_of x
  have h2' := uN_of y
  have h3 := uN_of (x - y)
  have h4 := uN_lt x
  have h4' := uN_lt y
  have h5 : (x - y).toInt % 18446744073709551616 = (x.toInt - y.toInt) % 18446744073709551616 := by rw [h1]; exact Int.bmod_emod
  omega
theorem uN_not (x : Int64) : uN (x ^^^ (-1)) = 18446744073709551615 - uN x := by
  have h : x ^^^ (-1) = -x - 1 := by
    rw [show x ^^^ (-1) = ~~~ x by simp, Int64.not_eq_neg_sub]
  have h1 := uN_neg x
  have h2 := uN_sub (-x) 1
  have h4 := uN_lt x
  rw [un1] at h2
  rw [h]
  omega
theorem wv_mod {h l : Int64} {z : Int} (hz : In z) (e1 : ((uN h : Int) * 18446744073709551616 + uN l) % 340282366920938463463374607431768211456 = z % 340282366920938463463374607431768211456) : wv h l = z := by
  have a := uN_int h
  have b := uN_lt h
  have c := uN_lt l
  unfold In at hz
  unfold wv
  split at a <;> omega
theorem wv_of (h l : Int64) : wv h l % 340282366920938463463374607431768211456 = ((uN h : Int) * 18446744073709551616 + uN l) % 340282366920938463463374607431768211456 := by
  have a := uN_int h
  have b := uN_lt h
  unfold wv
  split at a <;> omega
theorem wv_neg0 {h l : Int64} (c : -l = 0) (hz : In (-(wv h l))) : wv (-h) (-l) = -(wv h l) := by
  have e : uN (-l) = 0 := by rw [c]; rfl
  refine wv_mod hz ?_
  have a := wv_of h l
  have b := uN_neg h
  have b' := uN_neg l
  have d := uN_lt h
  have d' := uN_lt l
  omega
theorem wv_neg1 {h l : Int64} (c : ¬ -l = 0) (hz : In (-(wv h l))) : wv (h ^^^ (-1)) (-l) = -(wv h l) := by
  have e := u64_ne0 c
  refine wv_mod hz ?_
  have a := wv_of h l
  have b := uN_not h
  have b' := uN_neg l
  have d := uN_lt h
  have d' := uN_lt l
  omega
theorem wv_add1 {h l oh ol : Int64} (c : uN (l + ol) < uN ol) (hz : In (wv h l + wv oh ol)) : wv (h + oh + 1) (l + ol) = wv h l + wv oh ol := by
  refine wv_mod hz ?_
  have a := wv_of h l
  have a' := wv_of oh ol
  have b := uN_add h oh
  have b' := uN_add l ol
  have b'' := uN_add (h + oh) 1
  have d := uN_lt h
  have d' := uN_lt l
  have f := uN_lt oh
  have f' := uN_lt ol
  rw [un1] at b''
  omega
theorem wv_add0 {h l oh ol : Int64} (c : ¬ uN (l + ol) < uN ol) (hz : In (wv h l + wv oh ol)) : wv (h + oh) (l + ol) = wv h l + wv oh ol := by
  refine wv_mod hz ?_
  have a := wv_of h l
  have a' := wv_of oh ol
  have b := uN_add h oh
  have b' := uN_add l ol
  have d := uN_lt h
  have d' := uN_lt l
  have f := uN_lt oh
  have f' := uN_lt ol
  omega
theorem wv_sub1 {h l oh ol : Int64} (c : uN l < uN ol) (hz : In (wv h l - wv oh ol)) : wv (h - 1 - oh) (l - ol) = wv h l - wv oh ol := by
  refine wv_mod hz ?_
  have a := wv_of h l
  have a' := wv_of oh ol
  have b := uN_sub h 1
  have b' := uN_sub l ol
  have b'' := uN_sub (h - 1) oh
  have d := uN_lt h
  have d' := uN_lt l
  have f := uN_lt oh
  have f' := uN_lt ol
  rw [un1] at b
  omega
theorem wv_sub0 {h l oh ol : Int64} (c : ¬ uN l < uN ol) (hz : In (wv h l - wv oh ol)) : wv (h - oh) (l - ol) = wv h l - wv oh ol := by
  refine wv_mod hz ?_
  have a := wv_of h l
  have a' := wv_of oh ol
  have b' := uN_sub l ol
  have b'' := uN_sub h oh
  have d := uN_lt h
  have d' := uN_lt l
  have f := uN_lt oh
  have f' := uN_lt ol
  omega
theorem wv_twice {h l : Int64} (hz : In (2 * wv h l)) : wv (h <<< ((1 : Int32).toInt64 &&& 63) ||| (l.toUInt64 >>> ((63 : Int32).toInt64.toUInt64 &&& Int64.toUInt64 63)).toInt64) (l <<< ((1 : Int32).toInt64 &&& 63)) = 2 * wv h l := by
  refine wv_mod hz ?_
  have s := uN_s63 l
  have d' := uN_lt l
  have d := uN_lt h
  have o := uN_or (x := h) (y := (l.toUInt64 >>> ((63 : Int32).toInt64.toUInt64 &&& Int64.toUInt64 63)).toInt64) (by rw [s]; omega)
  have q := uN_shl l
  have a := wv_of h l
  rw [o, s, q]
  omega
theorem sI_s1 (a : Int64) : (a >>> ((1 : Int32).toInt64 &&& 63)).toInt = a.toInt / 2 := by
  have h : (((1 : Int32).toInt64 &&& 63).toBitVec.smod 64).toNat = 1 := by decide
  show (a.toBitVec.sshiftRight (((1 : Int32).toInt64 &&& 63).toBitVec.smod 64).toNat).toInt = _
  rw [h, BitVec.toInt_sshiftRight, Int.shiftRight_eq_div_pow]
  rfl
theorem sI_s32 (a : Int64) : (a >>> ((32 : Int32).toInt64 &&& 63)).toInt = a.toInt / 4294967296 := by
  have h : (((32 : Int32).toInt64 &&& 63).toBitVec.smod 64).toNat = 32 := by decide
  show (a.toBitVec.sshiftRight (((32 : Int32).toInt64 &&& 63).toBitVec.smod 64).toNat).toInt = _
  rw [h, BitVec.toInt_sshiftRight, Int.shiftRight_eq_div_pow]
  rfl
theorem uN_s1 (x : Int64) : uN (x.toUInt64 >>> ((1 : Int32).toInt64.toUInt64 &&& Int64.toUInt64 63)).toInt64 = uN x / 2 := by
  have h : ((1 : Int32).toInt64.toUInt64 &&& Int64.toUInt64 63).toNat % 64 = 1 := by decide
  rw [uN_shr, h]
theorem uN_l63 (x : Int64) : uN (x <<< ((63 : Int32).toInt64 &&& 63)) = 9223372036854775808 * (uN x % 2) := by
  have h : (((63 : Int32).toInt64 &&& 63).toBitVec.smod 64).toNat = 63 := by decide
  have e : uN (x <<< ((63 : Int32).toInt64 &&& 63)) = (uN x * 2 ^ 63) % 2 ^ 64 := by
    show (x.toBitVec <<< (((63 : Int32).toInt64 &&& 63).toBitVec.smod 64).toNat).toNat = _
    rw [h, BitVec.toNat_shiftLeft, Nat.shiftLeft_eq]
    rfl
  rw [e]
  omega
theorem uN_or2 (x y : Int64) : uN (x ||| y) = uN x ||| uN y := UInt64.toNat_or _ _
theorem wv_half (h l : Int64) : wv (h >>> ((1 : Int32).toInt64 &&& 63)) ((l.toUInt64 >>> ((1 : Int32).toInt64.toUInt64 &&& Int64.toUInt64 63)).toInt64 ||| h <<< ((63 : Int32).toInt64 &&& 63)) = wv h l / 2 := by
  have d' := uN_lt l
  have e : uN ((l.toUInt64 >>> ((1 : Int32).toInt64.toUInt64 &&& Int64.toUInt64 63)).toInt64 ||| h <<< ((63 : Int32).toInt64 &&& 63)) = 9223372036854775808 * (uN h % 2) + uN l / 2 := by
    rw [uN_or2, uN_s1, uN_l63, Nat.or_comm]
    exact (Nat.two_pow_add_eq_or_of_lt (i := 63) (show uN l / 2 < 2 ^ 63 by omega) _).symm
  have a := uN_of h
  unfold wv
  rw [e, sI_s1]
  omega
theorem wv_bit (h l : Int64) : wv h (l ||| 1) = wv h l + (1 - wv h l % 2) := by
  have e : uN (l ||| 1) = 2 * (uN l / 2) + 1 := by
    rw [uN_or2, un1]
    have k : 2 ^ 1 * (uN l / 2) + 1 = 2 ^ 1 * (uN l / 2) ||| 1 := Nat.two_pow_add_eq_or_of_lt (i := 1) (by omega) _
    rcases (show uN l = 2 ^ 1 * (uN l / 2) ∨ uN l = 2 ^ 1 * (uN l / 2) + 1 by omega) with c | c
    · calc uN l ||| 1 = 2 ^ 1 * (uN l / 2) ||| 1 := by rw [← c]
        _ = _ := by rw [← k]
    · calc uN l ||| 1 = (2 ^ 1 * (uN l / 2) + 1) ||| 1 := by rw [← c]
        _ = (2 ^ 1 * (uN l / 2) ||| 1) ||| 1 := by rw [k]
        _ = 2 ^ 1 * (uN l / 2) ||| 1 := by rw [Nat.or_assoc, Nat.or_self]
        _ = _ := by rw [← k]
  unfold wv
  rw [e]
  omega
theorem wv_odd0 {h l : Int64} (c : l &&& 1 = 0) : wv h l % 2 = 0 := by
  have := (uN_bit l).mp c
  unfold wv
  omega
theorem wv_odd1 {h l : Int64} (c : ¬ l &&& 1 = 0) : wv h l % 2 = 1 := by
  have : ¬ uN l % 2 = 0 := fun q => c ((uN_bit l).mpr q)
  unfold wv
  omega
theorem wv_one {h l : Int64} : wv h l = 1 ↔ h = 0 ∧ l = 1 := by
  constructor
  · intro e
    exact wv_inj (h2 := 0) (l2 := 1) (e.trans rfl)
  · rintro ⟨rfl, rfl⟩; rfl
/-! the upper word of a product -/
theorem lo_eq (a : Int64) : (a &&& 4294967295).toInt = a.toInt % 4294967296 := by
  have h := uN_lo a
  have h1 := uN_of a
  have h2 := uN_int (a &&& 4294967295)
  split at h2 <;> omega
theorem mul_rng {x y : Int64} (h1 : -9223372036854775808 ≤ x.toInt * y.toInt) (h2 : x.toInt * y.toInt < 9223372036854775808) : (x * y).toInt = x.toInt * y.toInt := by
  rw [Int64.toInt_mul]
  exact Int.bmod_eq_of_le (by simpa using h1) (by simpa using h2)
theorem add_rng {x y : Int64} (h1 : -9223372036854775808 ≤ x.toInt + y.toInt) (h2 : x.toInt + y.toInt < 9223372036854775808) : (x + y).toInt = x.toInt + y.toInt := by
  rw [Int64.toInt_add]
  exact Int.bmod_eq_of_le (by simpa using h1) (by simpa using h2)
theorem sub_rng {x y : Int64} (h1 : -9223372036854775808 ≤ x.toInt - y.toInt) (h2 : x.toInt - y.toInt < 9223372036854775808) : (x - y).toInt = x.toInt - y.toInt := by
  rw [Int64.toInt_sub]
  exact Int.bmod_eq_of_le (by simpa using h1) (by simpa using h2)
theorem neg_rng {x : Int64} (h1 : -9223372036854775808 < x.toInt) : (-x).toInt = -x.toInt := by
  have h2 := sI_rng x
  rw [Int64.toInt_neg]
  exact Int.bmod_eq_of_le (by simp; omega) (by simp; omega)
theorem mb {x y X Y : Int} (h1 : 0 ≤ y) (h2 : y ≤ Y) (h3 : -X ≤ x) (h4 : x ≤ X) : -(X * Y) ≤ x * y ∧ x * y ≤ X * Y := by
  have hX : 0 ≤ X := by omega
  have a1 : x * y ≤ X * y := Int.mul_le_mul_of_nonneg_right h4 h1
  have a2 : X * y ≤ X * Y := Int.mul_le_mul_of_nonneg_left h2 hX
  have a3 : (-X) * y ≤ x * y := Int.mul_le_mul_of_nonneg_right h3 h1
  rw [Int.neg_mul] at a3
  omega
theorem mbu {x y X Y : Int} (h1 : 0 ≤ y) (h2 : y ≤ Y) (h3 : 0 ≤ X) (h4 : x ≤ X) : x * y ≤ X * Y :=
  Int.le_trans (Int.mul_le_mul_of_nonneg_right h4 h1) (Int.mul_le_mul_of_nonneg_left h2 h3)
abbrev hop (a b : Int64) : Int64 := (a >>> ((32 : Int32).toInt64 &&& 63)) * (b >>> ((32 : Int32).toInt64 &&& 63)) + (((a >>> ((32 : Int32).toInt64 &&& 63)) * (b &&& 4294967295) + (((a &&& 4294967295) * (b &&& 4294967295)).toUInt64 >>> ((32 : Int32).toInt64.toUInt64 &&& Int64.toUInt64 63)).toInt64) >>> ((32 : Int32).toInt64 &&& 63)) + (((a &&& 4294967295) * (b >>> ((32 : Int32).toInt64 &&& 63)) + (((a >>> ((32 : Int32).toInt64 &&& 63)) * (b &&& 4294967295) + (((a &&& 4294967295) * (b &&& 4294967295)).toUInt64 >>> ((32 : Int32).toInt64.toUInt64 &&& Int64.toUInt64 63)).toInt64) &&& 4294967295)) >>> ((32 : Int32).toInt64 &&& 63))
theorem wv_hop (a b : Int64) : wv (hop a b) (a * b) = a.toInt * b.toInt := by
  have ra := sI_rng a
  have rb := sI_rng b
  obtain ⟨A1, hA1⟩ : ∃ z, z = a >>> ((32 : Int32).toInt64 &&& 63) := ⟨_, rfl⟩
  obtain ⟨B1, hB1⟩ : ∃ z, z = b >>> ((32 : Int32).toInt64 &&& 63) := ⟨_, rfl⟩
  obtain ⟨A0, hA0⟩ : ∃ z, z = a &&& 4294967295 := ⟨_, rfl⟩
  obtain ⟨B0, hB0⟩ : ∃ z, z = b &&& 4294967295 := ⟨_, rfl⟩
  have eA1 : A1.toInt = a.toInt / 4294967296 := by rw [hA1, sI_s32]
  have eB1 : B1.toInt = b.toInt / 4294967296 := by rw [hB1, sI_s32]
  have eA0 : A0.toInt = a.toInt % 4294967296 := by rw [hA0, lo_eq]
  have eB0 : B0.toInt = b.toInt % 4294967296 := by rw [hB0, lo_eq]
  unfold hop
  rw [← hA1, ← hB1, ← hA0, ← hB0]
  obtain ⟨q, hq⟩ : ∃ z, z = ((A0 * B0).toUInt64 >>> ((32 : Int32).toInt64.toUInt64 &&& Int64.toUInt64 63)).toInt64 := ⟨_, rfl⟩
  rw [← hq]
  have uA0 : uN A0 = A0.toInt := by have := uN_of A0; omega
  have uB0 : uN B0 = B0.toInt := by have := uN_of B0; omega
  have m00 := mb (x := A0.toInt) (y := B0.toInt) (X := 4294967295) (Y := 4294967295) (by omega) (by omega) (by omega) (by omega)
  have n00 : 0 ≤ A0.toInt * B0.toInt := Int.mul_nonneg (by omega) (by omega)
  have m10 := mb (x := A1.toInt) (y := B0.toInt) (X := 2147483648) (Y := 4294967295) (by omega) (by omega) (by omega) (by omega)
  have m01 := mb (x := B1.toInt) (y := A0.toInt) (X := 2147483648) (Y := 4294967295) (by omega) (by omega) (by omega) (by omega)
  have m11 : -4611686018427387904 ≤ A1.toInt * B1.toInt ∧ A1.toInt * B1.toInt ≤ 4611686018427387904 := by
    rcases Int.le_total 0 B1.toInt with h | h
    · have := mb (x := A1.toInt) (y := B1.toInt) (X := 2147483648) (Y := 2147483648) (by omega) (by omega) (by omega) (by omega)
      omega
    · have := mb (x := A1.toInt) (y := -B1.toInt) (X := 2147483648) (Y := 2147483648) (by omega) (by omega) (by omega) (by omega)
      rw [Int.mul_neg] at this
      omega
  have u10 := mbu (x := A1.toInt) (y := B0.toInt) (X := 2147483647) (Y := 4294967295) (by omega) (by omega) (by omega) (by omega)
  have u01 := mbu (x := B1.toInt) (y := A0.toInt) (X := 2147483647) (Y := 4294967295) (by omega) (by omega) (by omega) (by omega)
  rw [Int.mul_comm B1.toInt A0.toInt] at m01 u01
  have uq : (uN q : Int) = A0.toInt * B0.toInt / 4294967296 := by
    rw [hq, uN_s32, uN_mul]
    have e : ((uN A0 * uN B0 : Nat) : Int) = A0.toInt * B0.toInt := by rw [Int.natCast_mul, uA0, uB0]
    omega
  have eq : q.toInt = A0.toInt * B0.toInt / 4294967296 := by
    have := uN_int q
    split at this <;> omega
  have em1 : (A1 * B0).toInt = A1.toInt * B0.toInt := mul_rng (by omega) (by omega)
  have em2 : (A0 * B1).toInt = A0.toInt * B1.toInt := mul_rng (by omega) (by omega)
  have em3 : (A1 * B1).toInt = A1.toInt * B1.toInt := mul_rng (by omega) (by omega)
  have es : A1.toInt * B0.toInt + q.toInt < 9223372036854775808 := by omega
  obtain ⟨M, hM⟩ : ∃ z, z = A1 * B0 + q := ⟨_, rfl⟩
  rw [← hM]
  have eM : M.toInt = A1.toInt * B0.toInt + q.toInt := by rw [hM, add_rng (by omega) (by omega), em1]
  have eM1 := sI_s32 M
  have eM0 := lo_eq M
  obtain ⟨N, hN⟩ : ∃ z, z = A0 * B1 + (M &&& 4294967295) := ⟨_, rfl⟩
  rw [← hN]
  have eN : N.toInt = A0.toInt * B1.toInt + M.toInt % 4294967296 := by rw [hN, add_rng (by omega) (by omega), em2, eM0]
  have eN1 := sI_s32 N
  have rM := sI_rng M
  have rN := sI_rng N
  have e1 : (A1 * B1 + (M >>> ((32 : Int32).toInt64 &&& 63))).toInt = A1.toInt * B1.toInt + M.toInt / 4294967296 := by rw [add_rng (by omega) (by omega), em3, eM1]
  have e2 : (A1 * B1 + (M >>> ((32 : Int32).toInt64 &&& 63)) + (N >>> ((32 : Int32).toInt64 &&& 63))).toInt = A1.toInt * B1.toInt + M.toInt / 4294967296 + N.toInt / 4294967296 := by rw [add_rng (by omega) (by omega), e1, eN1]
  have lowp : (uN (a * b) : Int) = (a.toInt * b.toInt) % 18446744073709551616 := by
    have := uN_of (a * b)
    rw [this, Int64.toInt_mul]
    exact Int.bmod_emod
  unfold wv
  rw [e2, lowp]
  have ea : a.toInt = A1.toInt * 4294967296 + A0.toInt := by omega
  have eb : b.toInt = B1.toInt * 4294967296 + B0.toInt := by omega
  have ep : a.toInt * b.toInt = A1.toInt * B1.toInt * 18446744073709551616 + (A1.toInt * B0.toInt) * 4294967296 + (A0.toInt * B1.toInt) * 4294967296 + A0.toInt * B0.toInt := by
    rw [ea, eb, Int.add_mul, Int.mul_add, Int.mul_add]
    have k1 : A1.toInt * 4294967296 * (B1.toInt * 4294967296) = A1.toInt * B1.toInt * 18446744073709551616 := by
      rw [Int.mul_assoc, ← Int.mul_assoc 4294967296, Int.mul_comm 4294967296 B1.toInt, Int.mul_assoc B1.toInt, ← Int.mul_assoc]
      omega
    have k2 : A1.toInt * 4294967296 * B0.toInt = (A1.toInt * B0.toInt) * 4294967296 := by rw [Int.mul_assoc, Int.mul_comm 4294967296, ← Int.mul_assoc]
    have k3 : A0.toInt * (B1.toInt * 4294967296) = (A0.toInt * B1.toInt) * 4294967296 := by rw [Int.mul_assoc]
    rw [k1, k2, k3]
    omega
  rw [ep]
  clear ep ea eb
  generalize A1.toInt * B1.toInt = p11 at *
  generalize A1.toInt * B0.toInt = p10 at *
  generalize A0.toInt * B1.toInt = p01 at *
  generalize A0.toInt * B0.toInt = p00 at *
  omega
/-! a wide number times a long -/
theorem wv_scaled {oh ol f : Int64} (hz : In (wv oh ol * f.toInt)) {cr : Int64} (hc : (ol < 0 ∧ cr = f) ∨ (¬ ol < 0 ∧ cr = 0)) : wv (oh * f + hop ol f + cr) (ol * f) = wv oh ol * f.toInt := by
  have e := wv_hop ol f
  refine wv_mod hz ?_
  obtain ⟨g, hg⟩ : ∃ z, z = hop ol f := ⟨_, rfl⟩
  rw [← hg] at e ⊢
  have a1 := uN_of (oh * f + g + cr)
  have a2 : (oh * f + g + cr).toInt % 18446744073709551616 = (oh.toInt * f.toInt + g.toInt + cr.toInt) % 18446744073709551616 := by
    rw [Int64.toInt_add, Int64.toInt_add, Int64.toInt_mul]
    have k1 := @Int.bmod_emod (Int.bmod (Int.bmod (oh.toInt * f.toInt) (2 ^ 64) + g.toInt) (2 ^ 64) + cr.toInt) (2 ^ 64)
    have k2 := @Int.bmod_emod (Int.bmod (oh.toInt * f.toInt) (2 ^ 64) + g.toInt) (2 ^ 64)
    have k3 := @Int.bmod_emod (oh.toInt * f.toInt) (2 ^ 64)
    generalize Int.bmod (Int.bmod (Int.bmod (oh.toInt * f.toInt) (2 ^ 64) + g.toInt) (2 ^ 64) + cr.toInt) (2 ^ 64) = x1 at *
    generalize Int.bmod (Int.bmod (oh.toInt * f.toInt) (2 ^ 64) + g.toInt) (2 ^ 64) = x2 at *
    generalize Int.bmod (oh.toInt * f.toInt) (2 ^ 64) = x3 at *
    simp at k1 k2 k3
    omega
  have b1 := uN_int ol
  have b2 := uN_lt ol
  have ew : wv oh ol * f.toInt = oh.toInt * f.toInt * 18446744073709551616 + (uN ol : Int) * f.toInt := by
    unfold wv
    rw [Int.add_mul, Int.mul_assoc, Int.mul_comm 18446744073709551616, ← Int.mul_assoc]
  have eu : (uN ol : Int) * f.toInt = ol.toInt * f.toInt + cr.toInt * 18446744073709551616 := by
    rcases hc with ⟨c1, c2⟩ | ⟨c1, c2⟩
    · rw [i64_lt, t0] at c1
      have : (uN ol : Int) = ol.toInt + 18446744073709551616 := by split at b1 <;> omega
      rw [this, Int.add_mul, c2]
      omega
    · rw [i64_lt, t0] at c1
      have : (uN ol : Int) = ol.toInt := by split at b1 <;> omega
      rw [this, c2, t0]
      omega
  unfold wv at e
  rw [ew, eu, a1]
  generalize oh.toInt * f.toInt = p1 at *
  generalize ol.toInt * f.toInt = p2 at *
  omega
/-! amounts and limbs -/
theorem am_lo0 {h l : Int64} (c : ¬ h < 0) : uN l = (wv h l).natAbs % 18446744073709551616 := by
  rw [i64_lt, t0] at c
  have := uN_lt l
  unfold wv
  omega
theorem am_lo1 {h l : Int64} (c : h < 0) : uN (-l) = (wv h l).natAbs % 18446744073709551616 := by
  rw [i64_lt, t0] at c
  have := uN_lt l
  have := uN_neg l
  unfold wv
  omega
theorem am_hi0 {h l : Int64} (c : (0 : Int64) ≤ h) : uN h = (wv h l).natAbs / 18446744073709551616 := by
  rw [i64_le, t0] at c
  have := uN_lt l
  have := uN_of h
  have := sI_rng h
  unfold wv
  omega
theorem am_hi1 {h l : Int64} (c : ¬ (0 : Int64) ≤ h) (d : l = 0) : uN (-h) = (wv h l).natAbs / 18446744073709551616 := by
  rw [i64_le, t0] at c
  subst d
  have := uN_neg h
  have := uN_of h
  have := sI_rng h
  unfold wv
  rw [un0]
  omega
theorem am_hi2 {h l : Int64} (c : ¬ (0 : Int64) ≤ h) (d : ¬ l = 0) : uN (h ^^^ (-1)) = (wv h l).natAbs / 18446744073709551616 := by
  rw [i64_le, t0] at c
  have := u64_ne0 d
  have := uN_lt l
  have := uN_not h
  have := uN_of h
  have := sI_rng h
  unfold wv
  omega
def nl (n : Nat) : Nat := if n < 4294967296 then 1 else if n < 18446744073709551616 then 2 else if n < 79228162514264337593543950336 then 3 else 4
def lb (a n : Nat) : Nat := a / 4294967296 ^ n % 4294967296
theorem lc_eq {x y : Int64} (c : lg_cmp x y = 0) : x.toInt = y.toInt := i64_eq.mp ((lg_cmp_eq _ _).mp c)
theorem lc_ne {x y : Int64} (c : ¬ lg_cmp x y = 0) : x.toInt ≠ y.toInt := fun q => c ((lg_cmp_eq _ _).mpr (i64_eq.mpr q))
theorem lc_lt {x y : Int64} (c : lg_cmp x y < 0) : x.toInt < y.toInt := i64_lt.mp ((lg_cmp_lt _ _).mp c)
theorem lc_nlt {x y : Int64} (c : ¬ lg_cmp x y < 0) : y.toInt ≤ x.toInt := Int.not_lt.mp (fun q => c ((lg_cmp_lt _ _).mpr (i64_lt.mpr q)))
theorem lc_ge {x y : Int64} (c : 0 ≤ lg_cmp x y) : y.toInt ≤ x.toInt := i64_le.mp ((lg_cmp_ge _ _).mp c)
theorem lc_nge {x y : Int64} (c : ¬ 0 ≤ lg_cmp x y) : x.toInt < y.toInt := Int.not_le.mp (fun q => c ((lg_cmp_ge _ _).mpr (i64_le.mpr q)))
theorem lc_gt {x y : Int64} (c : 0 < lg_cmp x y) : y.toInt < x.toInt := i64_lt.mp ((lg_cmp_gt _ _).mp c)
theorem lc_ngt {x y : Int64} (c : ¬ 0 < lg_cmp x y) : x.toInt ≤ y.toInt := Int.not_lt.mp (fun q => c ((lg_cmp_gt _ _).mpr (i64_lt.mpr q)))
theorem lc_le {x y : Int64} (c : lg_cmp x y ≤ 0) : x.toInt ≤ y.toInt := i64_le.mp ((lg_cmp_le _ _).mp c)
theorem lc_nle {x y : Int64} (c : ¬ lg_cmp x y ≤ 0) : y.toInt < x.toInt := Int.not_le.mp (fun q => c ((lg_cmp_le _ _).mpr (i64_le.mpr q)))
theorem bz_0 {p : Prop} [Decidable p] (c : bz p = 0) : ¬ p := fun h => by rw [← bz_t h] at c; exact absurd c (by decide)
theorem bz_1 {p : Prop} [Decidable p] (c : ¬ bz p = 0) : p := Decidable.byContradiction (fun h => c (bz_f h).symm)
end
section
theorem nd_X2_init : yX2_init.cls ≠ "java/lang/invoke/MethodHandle" ∧ yX2_init.cls ≠ "java/lang/invoke/VarHandle" ∧ (parseMethodDescriptor yX2_init.desc).map (fun d => d.parameters.length) = some 0 := by decide +kernel
theorem nd_X2_put : yX2_put.cls ≠ "java/lang/invoke/MethodHandle" ∧ yX2_put.cls ≠ "java/lang/invoke/VarHandle" ∧ (parseMethodDescriptor yX2_put.desc).map (fun d => d.parameters.length) = some 1 := by decide +kernel
theorem nd_X2_copy : yX2_copy.cls ≠ "java/lang/invoke/MethodHandle" ∧ yX2_copy.cls ≠ "java/lang/invoke/VarHandle" ∧ (parseMethodDescriptor yX2_copy.desc).map (fun d => d.parameters.length) = some 1 := by decide +kernel
theorem nd_X2_copyAmount : yX2_copyAmount.cls ≠ "java/lang/invoke/MethodHandle" ∧ yX2_copyAmount.cls ≠ "java/lang/invoke/VarHandle" ∧ (parseMethodDescriptor yX2_copyAmount.desc).map (fun d => d.parameters.length) = some 1 := by decide +kernel
theorem nd_X2_sign : yX2_sign.cls ≠ "java/lang/invoke/MethodHandle" ∧ yX2_sign.cls ≠ "java/lang/invoke/VarHandle" ∧ (parseMethodDescriptor yX2_sign.desc).map (fun d => d.parameters.length) = some 0 := by decide +kernel
theorem nd_X2_isOdd : yX2_isOdd.cls ≠ "java/lang/invoke/MethodHandle" ∧ yX2_isOdd.cls ≠ "java/lang/invoke/VarHandle" ∧ (parseMethodDescriptor yX2_isOdd.desc).map (fun d => d.parameters.length) = some 0 := by decide +kernel
theorem nd_X2_isOne : yX2_isOne.cls ≠ "java/lang/invoke/MethodHandle" ∧ yX2_isOne.cls ≠ "java/lang/invoke/VarHandle" ∧ (parseMethodDescriptor yX2_isOne.desc).map (fun d => d.parameters.length) = some 0 := by decide +kernel
theorem nd_X2_compare : yX2_compare.cls ≠ "java/lang/invoke/MethodHandle" ∧ yX2_compare.cls ≠ "java/lang/invoke/VarHandle" ∧ (parseMethodDescriptor yX2_compare.desc).map (fun d => d.parameters.length) = some 1 := by decide +kernel
theorem nd_X2_negate : yX2_negate.cls ≠ "java/lang/invoke/MethodHandle" ∧ yX2_negate.cls ≠ "java/lang/invoke/VarHandle" ∧ (parseMethodDescriptor yX2_negate.desc).map (fun d => d.parameters.length) = some 0 := by decide +kernel
theorem nd_X2_addParts : yX2_addParts.cls ≠ "java/lang/invoke/MethodHandle" ∧ yX2_addParts.cls ≠ "java/lang/invoke/VarHandle" ∧ (parseMethodDescriptor yX2_addParts.desc).map (fun d => d.parameters.length) = some 2 := by decide +kernel
theorem nd_X2_subtract : yX2_subtract.cls ≠ "java/lang/invoke/MethodHandle" ∧ yX2_subtract.cls ≠ "java/lang/invoke/VarHandle" ∧ (parseMethodDescriptor yX2_subtract.desc).map (fun d => d.parameters.length) = some 1 := by decide +kernel
theorem nd_X2_addProduct : yX2_addProduct.cls ≠ "java/lang/invoke/MethodHandle" ∧ yX2_addProduct.cls ≠ "java/lang/invoke/VarHandle" ∧ (parseMethodDescriptor yX2_addProduct.desc).map (fun d => d.parameters.length) = some 2 := by decide +kernel
theorem nd_X2_addSpan : yX2_addSpan.cls ≠ "java/lang/invoke/MethodHandle" ∧ yX2_addSpan.cls ≠ "java/lang/invoke/VarHandle" ∧ (parseMethodDescriptor yX2_addSpan.desc).map (fun d => d.parameters.length) = some 4 := by decide +kernel
theorem nd_X2_putSpan : yX2_putSpan.cls ≠ "java/lang/invoke/MethodHandle" ∧ yX2_putSpan.cls ≠ "java/lang/invoke/VarHandle" ∧ (parseMethodDescriptor yX2_putSpan.desc).map (fun d => d.parameters.length) = some 4 := by decide +kernel
theorem nd_X2_addScaled : yX2_addScaled.cls ≠ "java/lang/invoke/MethodHandle" ∧ yX2_addScaled.cls ≠ "java/lang/invoke/VarHandle" ∧ (parseMethodDescriptor yX2_addScaled.desc).map (fun d => d.parameters.length) = some 2 := by decide +kernel
theorem nd_X2_twice : yX2_twice.cls ≠ "java/lang/invoke/MethodHandle" ∧ yX2_twice.cls ≠ "java/lang/invoke/VarHandle" ∧ (parseMethodDescriptor yX2_twice.desc).map (fun d => d.parameters.length) = some 0 := by decide +kernel
theorem nd_X2_half : yX2_half.cls ≠ "java/lang/invoke/MethodHandle" ∧ yX2_half.cls ≠ "java/lang/invoke/VarHandle" ∧ (parseMethodDescriptor yX2_half.desc).map (fun d => d.parameters.length) = some 0 := by decide +kernel
theorem nd_X2_setLowestBit : yX2_setLowestBit.cls ≠ "java/lang/invoke/MethodHandle" ∧ yX2_setLowestBit.cls ≠ "java/lang/invoke/VarHandle" ∧ (parseMethodDescriptor yX2_setLowestBit.desc).map (fun d => d.parameters.length) = some 0 := by decide +kernel
theorem nd_X2_limbs : yX2_limbs.cls ≠ "java/lang/invoke/MethodHandle" ∧ yX2_limbs.cls ≠ "java/lang/invoke/VarHandle" ∧ (parseMethodDescriptor yX2_limbs.desc).map (fun d => d.parameters.length) = some 0 := by decide +kernel
theorem nd_X2_limbOfAmount : yX2_limbOfAmount.cls ≠ "java/lang/invoke/MethodHandle" ∧ yX2_limbOfAmount.cls ≠ "java/lang/invoke/VarHandle" ∧ (parseMethodDescriptor yX2_limbOfAmount.desc).map (fun d => d.parameters.length) = some 1 := by decide +kernel
theorem nd_X2_lowOfAmount : yX2_lowOfAmount.cls ≠ "java/lang/invoke/MethodHandle" ∧ yX2_lowOfAmount.cls ≠ "java/lang/invoke/VarHandle" ∧ (parseMethodDescriptor yX2_lowOfAmount.desc).map (fun d => d.parameters.length) = some 0 := by decide +kernel
theorem nd_X2_highOfAmount : yX2_highOfAmount.cls ≠ "java/lang/invoke/MethodHandle" ∧ yX2_highOfAmount.cls ≠ "java/lang/invoke/VarHandle" ∧ (parseMethodDescriptor yX2_highOfAmount.desc).map (fun d => d.parameters.length) = some 0 := by decide +kernel
theorem nd_X2_isBelowUnsigned : yX2_isBelowUnsigned.cls ≠ "java/lang/invoke/MethodHandle" ∧ yX2_isBelowUnsigned.cls ≠ "java/lang/invoke/VarHandle" ∧ (parseMethodDescriptor yX2_isBelowUnsigned.desc).map (fun d => d.parameters.length) = some 2 := by decide +kernel
theorem nd_X2_highOfProduct : yX2_highOfProduct.cls ≠ "java/lang/invoke/MethodHandle" ∧ yX2_highOfProduct.cls ≠ "java/lang/invoke/VarHandle" ∧ (parseMethodDescriptor yX2_highOfProduct.desc).map (fun d => d.parameters.length) = some 2 := by decide +kernel

set_option maxHeartbeats 4000000 in
set_option maxRecDepth 100000 in
theorem c_X2_init (l : Launch) (D : va_G) (cZ cI cJ : ClassId) (o : Nat) (hi lo : Int64) : Cv l D cZ cI cJ yX2_init cX2_init 1 { frames := 1, cells := 0, slots := 0, locals := 12 } [.ref o] [(o, .inr (2, [.long hi, .long lo]))] (S := Int64 × Int64) (fun u => u = (hi, lo)) (fun u => [(o, .inr (2, [.long u.1, .long u.2]))]) := by
  refine Cv.of (by decide) ?_
  intro p e s m args below meth c A Q hB hret hP hD hA
  obtain ⟨hx, hb, hr, hlocks, hml, hown, hnm, hTB, hK⟩ := hB
  have hown : s.vm.findClass RX2 = some m.cls := hown
  have hS : va_S A s.heap s.heap [] := va_S.rf
  have hl := lv_entry ([.ref o]) (n := 1) (Nat.le_of_ble_eq_true rfl)
  rw [lg_entry_eq]
  generalize (lg_sl ([.ref o]) ++ List.replicate (1 - (lg_sl ([.ref o])).length) Slot.unset).toArray = ls at hl ⊢
  have hl : lv_has ls 1 [(0, .ref o)] := hl
  refine lv_aload_n hx hb dX2_init_0 rfl (lv_at hl 0 rfl) ?_
  refine W.objInit hx hb hown (hTB _ tb_2_23) (hTB _ tb_1_12) (hTB _ tb_1_13) rfl (by rw [hml]; exact hl.1) rfl dX2_init_1 (Nat.le_of_ble_eq_true rfl) (Nat.le_of_ble_eq_true rfl) ?_
  refine W.eq (g2 := F0 m 4 ls []) rfl ?_
  exact hret hP hD hS (hi, lo) rfl [0] rfl (by decide) dX2_init_4 (Nat.le_of_ble_eq_true rfl) (Nat.le_of_ble_eq_true rfl)

set_option maxHeartbeats 4000000 in
set_option maxRecDepth 100000 in
theorem c_X2_put (l : Launch) (D : va_G) (cZ cI cJ : ClassId) (o : Nat) (hi lo : Int64) (v : Int64) : Cv l D cZ cI cJ yX2_put cX2_put 3 { frames := 0, cells := 0, slots := 0, locals := 0 } [.ref o, .long v] [(o, .inr (2, [.long hi, .long lo]))] (S := Int64 × Int64) (fun u => wv u.1 u.2 = v.toInt) (fun u => [(o, .inr (2, [.long u.1, .long u.2]))]) := by
  refine Cv.of (by decide) ?_
  intro p e s m args below meth c A Q hB hret hP hD hA
  obtain ⟨hx, hb, hr, hlocks, hml, hown, hnm, hTB, hK⟩ := hB
  have hown : s.vm.findClass RX2 = some m.cls := hown
  have hS : va_S A s.heap s.heap [] := va_S.rf
  have hl := lv_entry ([.ref o, .long v]) (n := 3) (Nat.le_of_ble_eq_true rfl)
  rw [lg_entry_eq]
  generalize (lg_sl ([.ref o, .long v]) ++ List.replicate (3 - (lg_sl ([.ref o, .long v])).length) Slot.unset).toArray = ls at hl ⊢
  have hl : lv_has ls 3 [(0, .ref o), (1, .long v)] := hl
  refine lv_aload_n hx hb dX2_put_0 rfl (lv_at hl 0 rfl) ?_
  refine lv_lload_n hx hb dX2_put_1 rfl (lv_at hl 1 rfl) ?_
  refine va_put (D := D) (ci := 2) (v := .long v) (ty := .long) (C := RX2) (T := TX2) (N := 2) hx hb hTB tb_X2 tyX2 tyX2_ok nmX2 hown hK.1 hP hD hS 0 rfl rfl 1 (by decide) (hTB _ tb_4_21) (fun _ h9 => h9) rfl (by decide +kernel) rfl rfl (Nat.le_of_ble_eq_true rfl) dX2_put_2 (fun H locs hP hD hS => ?_)
  have hP : va_P D vwCl [(o, .inr (2, [.long hi, .long v]))] H := hP
  have hD : va_D A [(o, .inr (2, [.long hi, .long v]))] := hD
  refine lv_aload_n hx hb dX2_put_5 rfl (lv_at hl 0 rfl) ?_
  refine lv_lload_n hx hb dX2_put_6 rfl (lv_at hl 1 rfl) ?_
  refine lv_lconst (v := 0) hx hb dX2_put_7 (by decide) ?_
  refine W.lcmp hx hb dX2_put_8 ?_
  refine lv_if_ge (tgt := 18) hx hb dX2_put_9 (by decide) (fun c_9 => ?_) (fun c_9 => ?_)
  · have c_9 : (0 : Int) ≤ v.toInt := lc_ge c_9
    refine lv_lconst (v := 0) hx hb dX2_put_18 (by decide) ?_
    refine va_put (D := D) (ci := 2) (v := .long 0) (ty := .long) (C := RX2) (T := TX2) (N := 2) hx hb hTB tb_X2 tyX2 tyX2_ok nmX2 hown hK.1 hP hD hS 0 rfl rfl 0 (by decide) (hTB _ tb_4_23) (fun _ h9 => h9) rfl (by decide +kernel) rfl rfl (Nat.le_of_ble_eq_true rfl) dX2_put_19 (fun H locs hP hD hS => ?_)
    have hP : va_P D vwCl [(o, .inr (2, [.long 0, .long v]))] H := hP
    have hD : va_D A [(o, .inr (2, [.long 0, .long v]))] := hD
    exact hret hP hD hS (0, v) (wv_put0 (i64_le.mpr c_9)) [0] rfl (by decide) dX2_put_22 (Nat.le_of_ble_eq_true rfl) (Nat.le_of_ble_eq_true rfl)
  · have c_9 : v.toInt < (0 : Int) := lc_nge c_9
    refine lv_ldc2 (v := (-1)) hx hb hown (hTB _ tb_4_22) dX2_put_12 ?_
    refine lv_goto (tgt := 19) hx hb dX2_put_15 (by decide) ?_
    refine va_put (D := D) (ci := 2) (v := .long (-1)) (ty := .long) (C := RX2) (T := TX2) (N := 2) hx hb hTB tb_X2 tyX2 tyX2_ok nmX2 hown hK.1 hP hD hS 0 rfl rfl 0 (by decide) (hTB _ tb_4_23) (fun _ h9 => h9) rfl (by decide +kernel) rfl rfl (Nat.le_of_ble_eq_true rfl) dX2_put_19 (fun H locs hP hD hS => ?_)
    have hP : va_P D vwCl [(o, .inr (2, [.long (-1), .long v]))] H := hP
    have hD : va_D A [(o, .inr (2, [.long (-1), .long v]))] := hD
    exact hret hP hD hS ((-1), v) (wv_putm (v := v) (fun q => by rw [i64_le, t0] at q; omega)) [0] rfl (by decide) dX2_put_22 (Nat.le_of_ble_eq_true rfl) (Nat.le_of_ble_eq_true rfl)

set_option maxHeartbeats 4000000 in
set_option maxRecDepth 100000 in
theorem c_X2_copy (l : Launch) (D : va_G) (cZ cI cJ : ClassId) (o x : Nat) (hi lo h2 l2 : Int64) : Cv l D cZ cI cJ yX2_copy cX2_copy 2 { frames := 0, cells := 0, slots := 0, locals := 0 } [.ref o, .ref x] [(o, .inr (2, [.long hi, .long lo])), (x, .inr (2, [.long h2, .long l2]))] (S := Int64 × Int64) (fun u => u = (h2, l2)) (fun u => [(o, .inr (2, [.long u.1, .long u.2])), (x, .inr (2, [.long h2, .long l2]))]) := by
  refine Cv.of (by decide) ?_
  intro p e s m args below meth c A Q hB hret hP hD hA
  obtain ⟨hx, hb, hr, hlocks, hml, hown, hnm, hTB, hK⟩ := hB
  have hown : s.vm.findClass RX2 = some m.cls := hown
  have hS : va_S A s.heap s.heap [] := va_S.rf
  have hl := lv_entry ([.ref o, .ref x]) (n := 2) (Nat.le_of_ble_eq_true rfl)
  rw [lg_entry_eq]
  generalize (lg_sl ([.ref o, .ref x]) ++ List.replicate (2 - (lg_sl ([.ref o, .ref x])).length) Slot.unset).toArray = ls at hl ⊢
  have hl : lv_has ls 2 [(0, .ref o), (1, .ref x)] := hl
  refine lv_aload_n hx hb dX2_copy_0 rfl (lv_at hl 0 rfl) ?_
  refine lv_aload_n hx hb dX2_copy_1 rfl (lv_at hl 1 rfl) ?_
  refine va_get (D := D) (ci := 2) (v := .long l2) (C := RX2) (T := TX2) (N := 2) hx hb hTB tb_X2 hown hK.1 hP 1 rfl rfl 1 (by decide) (hTB _ tb_4_21) (fun _ h9 => h9) rfl dX2_copy_2 ?_
  refine va_put (D := D) (ci := 2) (v := .long l2) (ty := .long) (C := RX2) (T := TX2) (N := 2) hx hb hTB tb_X2 tyX2 tyX2_ok nmX2 hown hK.1 hP hD hS 0 rfl rfl 1 (by decide) (hTB _ tb_4_21) (fun _ h9 => h9) rfl (by decide +kernel) rfl rfl (Nat.le_of_ble_eq_true rfl) dX2_copy_5 (fun H locs hP hD hS => ?_)
  have hP : va_P D vwCl [(o, .inr (2, [.long hi, .long l2])), (x, .inr (2, [.long h2, .long l2]))] H := hP
  have hD : va_D A [(o, .inr (2, [.long hi, .long l2])), (x, .inr (2, [.long h2, .long l2]))] := hD
  refine lv_aload_n hx hb dX2_copy_8 rfl (lv_at hl 0 rfl) ?_
  refine lv_aload_n hx hb dX2_copy_9 rfl (lv_at hl 1 rfl) ?_
  refine va_get (D := D) (ci := 2) (v := .long h2) (C := RX2) (T := TX2) (N := 2) hx hb hTB tb_X2 hown hK.1 hP 1 rfl rfl 0 (by decide) (hTB _ tb_4_23) (fun _ h9 => h9) rfl dX2_copy_10 ?_
  refine va_put (D := D) (ci := 2) (v := .long h2) (ty := .long) (C := RX2) (T := TX2) (N := 2) hx hb hTB tb_X2 tyX2 tyX2_ok nmX2 hown hK.1 hP hD hS 0 rfl rfl 0 (by decide) (hTB _ tb_4_23) (fun _ h9 => h9) rfl (by decide +kernel) rfl rfl (Nat.le_of_ble_eq_true rfl) dX2_copy_13 (fun H locs hP hD hS => ?_)
  have hP : va_P D vwCl [(o, .inr (2, [.long h2, .long l2])), (x, .inr (2, [.long h2, .long l2]))] H := hP
  have hD : va_D A [(o, .inr (2, [.long h2, .long l2])), (x, .inr (2, [.long h2, .long l2]))] := hD
  exact hret hP hD hS (h2, l2) rfl [0, 1] rfl (by decide) dX2_copy_16 (Nat.le_of_ble_eq_true rfl) (Nat.le_of_ble_eq_true rfl)

set_option maxHeartbeats 4000000 in
set_option maxRecDepth 100000 in
theorem c_X2_sign (l : Launch) (D : va_G) (cZ cI cJ : ClassId) (o : Nat) (hi lo : Int64) : Ri l D cZ cI cJ yX2_sign cX2_sign 1 (some .int) { frames := 0, cells := 0, slots := 0, locals := 0 } [.ref o] [(o, .inr (2, [.long hi, .long lo]))] (fun r => r = sg (wv hi lo)) := by
  refine Ri.of (by decide) ?_
  intro p e s m args below meth c Q hB hret hP
  obtain ⟨hx, hb, hr, hlocks, hml, hown, hnm, hTB, hK⟩ := hB
  have hown : s.vm.findClass RX2 = some m.cls := hown
  have hl := lv_entry ([.ref o]) (n := 1) (Nat.le_of_ble_eq_true rfl)
  rw [lg_entry_eq]
  generalize (lg_sl ([.ref o]) ++ List.replicate (1 - (lg_sl ([.ref o])).length) Slot.unset).toArray = ls at hl ⊢
  have hl : lv_has ls 1 [(0, .ref o)] := hl
  refine lv_aload_n hx hb dX2_sign_0 rfl (lv_at hl 0 rfl) ?_
  refine va_get (D := D) (ci := 2) (v := .long hi) (C := RX2) (T := TX2) (N := 2) hx hb hTB tb_X2 hown hK.1 hP 0 rfl rfl 0 (by decide) (hTB _ tb_4_23) (fun _ h9 => h9) rfl dX2_sign_1 ?_
  refine lv_lconst (v := 0) hx hb dX2_sign_4 (by decide) ?_
  refine W.lcmp hx hb dX2_sign_5 ?_
  refine lv_if_eq (tgt := 24) hx hb dX2_sign_6 (by decide) (fun c_6 => ?_) (fun c_6 => ?_)
  · have c_6 : hi.toInt = (0 : Int) := lc_eq c_6
    refine lv_aload_n hx hb dX2_sign_24 rfl (lv_at hl 0 rfl) ?_
    refine va_get (D := D) (ci := 2) (v := .long lo) (C := RX2) (T := TX2) (N := 2) hx hb hTB tb_X2 hown hK.1 hP 0 rfl rfl 1 (by decide) (hTB _ tb_4_21) (fun _ h9 => h9) rfl dX2_sign_25 ?_
    refine lv_lconst (v := 0) hx hb dX2_sign_28 (by decide) ?_
    refine W.lcmp hx hb dX2_sign_29 ?_
    refine lv_if_ne (tgt := 37) hx hb dX2_sign_30 (by decide) (fun c_30 => ?_) (fun c_30 => ?_)
    · have c_30 : lo.toInt ≠ (0 : Int) := lc_ne c_30
      refine lv_iconst (v := 1) hx hb dX2_sign_37 (by decide) ?_
      exact hret rfl (by have := uN_lt lo; have := uN_of lo; have := sI_rng lo; unfold sg wv; split <;> (try split) <;> first | rfl | omega) dX2_sign_38
    · have c_30 : lo.toInt = (0 : Int) := lc_eq c_30
      refine lv_iconst (v := 0) hx hb dX2_sign_33 (by decide) ?_
      refine lv_goto (tgt := 38) hx hb dX2_sign_34 (by decide) ?_
      exact hret rfl (by have := uN_lt lo; have := uN_of lo; have := sI_rng lo; unfold sg wv; split <;> (try split) <;> first | rfl | omega) dX2_sign_38
  · have c_6 : hi.toInt ≠ (0 : Int) := lc_ne c_6
    refine lv_aload_n hx hb dX2_sign_9 rfl (lv_at hl 0 rfl) ?_
    refine va_get (D := D) (ci := 2) (v := .long hi) (C := RX2) (T := TX2) (N := 2) hx hb hTB tb_X2 hown hK.1 hP 0 rfl rfl 0 (by decide) (hTB _ tb_4_23) (fun _ h9 => h9) rfl dX2_sign_10 ?_
    refine lv_lconst (v := 0) hx hb dX2_sign_13 (by decide) ?_
    refine W.lcmp hx hb dX2_sign_14 ?_
    refine lv_if_ge (tgt := 22) hx hb dX2_sign_15 (by decide) (fun c_15 => ?_) (fun c_15 => ?_)
    · have c_15 : (0 : Int) ≤ hi.toInt := lc_ge c_15
      refine lv_iconst (v := 1) hx hb dX2_sign_22 (by decide) ?_
      exact hret rfl (by have := uN_lt lo; have := uN_of lo; have := sI_rng lo; unfold sg wv; split <;> (try split) <;> first | rfl | omega) dX2_sign_23
    · have c_15 : hi.toInt < (0 : Int) := lc_nge c_15
      refine lv_iconst (v := (-1)) hx hb dX2_sign_18 (by decide) ?_
      refine lv_goto (tgt := 23) hx hb dX2_sign_19 (by decide) ?_
      exact hret rfl (by have := uN_lt lo; have := uN_of lo; have := sI_rng lo; unfold sg wv; split <;> (try split) <;> first | rfl | omega) dX2_sign_23

set_option maxHeartbeats 4000000 in
set_option maxRecDepth 100000 in
theorem c_X2_isOdd (l : Launch) (D : va_G) (cZ cI cJ : ClassId) (o : Nat) (hi lo : Int64) : Ri l D cZ cI cJ yX2_isOdd cX2_isOdd 1 (some .boolean) { frames := 0, cells := 0, slots := 0, locals := 0 } [.ref o] [(o, .inr (2, [.long hi, .long lo]))] (fun r => r = bz (wv hi lo % 2 = 1)) := by
  refine Ri.of (by decide) ?_
  intro p e s m args below meth c Q hB hret hP
  obtain ⟨hx, hb, hr, hlocks, hml, hown, hnm, hTB, hK⟩ := hB
  have hown : s.vm.findClass RX2 = some m.cls := hown
  have hl := lv_entry ([.ref o]) (n := 1) (Nat.le_of_ble_eq_true rfl)
  rw [lg_entry_eq]
  generalize (lg_sl ([.ref o]) ++ List.replicate (1 - (lg_sl ([.ref o])).length) Slot.unset).toArray = ls at hl ⊢
  have hl : lv_has ls 1 [(0, .ref o)] := hl
  refine lv_aload_n hx hb dX2_isOdd_0 rfl (lv_at hl 0 rfl) ?_
  refine va_get (D := D) (ci := 2) (v := .long lo) (C := RX2) (T := TX2) (N := 2) hx hb hTB tb_X2 hown hK.1 hP 0 rfl rfl 1 (by decide) (hTB _ tb_4_21) (fun _ h9 => h9) rfl dX2_isOdd_1 ?_
  refine lv_lconst (v := 1) hx hb dX2_isOdd_4 (by decide) ?_
  refine lv_land hx hb dX2_isOdd_5 ?_
  refine lv_lconst (v := 0) hx hb dX2_isOdd_6 (by decide) ?_
  refine W.lcmp hx hb dX2_isOdd_7 ?_
  refine lv_if_eq (tgt := 15) hx hb dX2_isOdd_8 (by decide) (fun c_8 => ?_) (fun c_8 => ?_)
  · have c_8 : (lo &&& 1).toInt = (0 : Int) := lc_eq c_8
    refine lv_iconst (v := 0) hx hb dX2_isOdd_15 (by decide) ?_
    exact hret rfl (bz_f (by rw [wv_odd0 (i64_eq.mpr c_8)]; omega)) dX2_isOdd_16
  · have c_8 : (lo &&& 1).toInt ≠ (0 : Int) := lc_ne c_8
    refine lv_iconst (v := 1) hx hb dX2_isOdd_11 (by decide) ?_
    refine lv_goto (tgt := 16) hx hb dX2_isOdd_12 (by decide) ?_
    exact hret rfl (bz_t (wv_odd1 (fun q => c_8 (i64_eq.mp q)))) dX2_isOdd_16

set_option maxHeartbeats 4000000 in
set_option maxRecDepth 100000 in
theorem c_X2_isOne (l : Launch) (D : va_G) (cZ cI cJ : ClassId) (o : Nat) (hi lo : Int64) : Ri l D cZ cI cJ yX2_isOne cX2_isOne 1 (some .boolean) { frames := 0, cells := 0, slots := 0, locals := 0 } [.ref o] [(o, .inr (2, [.long hi, .long lo]))] (fun r => r = bz (wv hi lo = 1)) := by
  refine Ri.of (by decide) ?_
  intro p e s m args below meth c Q hB hret hP
  obtain ⟨hx, hb, hr, hlocks, hml, hown, hnm, hTB, hK⟩ := hB
  have hown : s.vm.findClass RX2 = some m.cls := hown
  have hl := lv_entry ([.ref o]) (n := 1) (Nat.le_of_ble_eq_true rfl)
  rw [lg_entry_eq]
  generalize (lg_sl ([.ref o]) ++ List.replicate (1 - (lg_sl ([.ref o])).length) Slot.unset).toArray = ls at hl ⊢
  have hl : lv_has ls 1 [(0, .ref o)] := hl
  refine lv_aload_n hx hb dX2_isOne_0 rfl (lv_at hl 0 rfl) ?_
  refine va_get (D := D) (ci := 2) (v := .long hi) (C := RX2) (T := TX2) (N := 2) hx hb hTB tb_X2 hown hK.1 hP 0 rfl rfl 0 (by decide) (hTB _ tb_4_23) (fun _ h9 => h9) rfl dX2_isOne_1 ?_
  refine lv_lconst (v := 0) hx hb dX2_isOne_4 (by decide) ?_
  refine W.lcmp hx hb dX2_isOne_5 ?_
  refine lv_if_ne (tgt := 22) hx hb dX2_isOne_6 (by decide) (fun c_6 => ?_) (fun c_6 => ?_)
  · have c_6 : hi.toInt ≠ (0 : Int) := lc_ne c_6
    refine lv_iconst (v := 0) hx hb dX2_isOne_22 (by decide) ?_
    exact hret rfl (bz_f (fun q => c_6 (i64_eq.mp (wv_one.mp q).1))) dX2_isOne_23
  · have c_6 : hi.toInt = (0 : Int) := lc_eq c_6
    refine lv_aload_n hx hb dX2_isOne_9 rfl (lv_at hl 0 rfl) ?_
    refine va_get (D := D) (ci := 2) (v := .long lo) (C := RX2) (T := TX2) (N := 2) hx hb hTB tb_X2 hown hK.1 hP 0 rfl rfl 1 (by decide) (hTB _ tb_4_21) (fun _ h9 => h9) rfl dX2_isOne_10 ?_
    refine lv_lconst (v := 1) hx hb dX2_isOne_13 (by decide) ?_
    refine W.lcmp hx hb dX2_isOne_14 ?_
    refine lv_if_ne (tgt := 22) hx hb dX2_isOne_15 (by decide) (fun c_15 => ?_) (fun c_15 => ?_)
    · have c_15 : lo.toInt ≠ (1 : Int) := lc_ne c_15
      refine lv_iconst (v := 0) hx hb dX2_isOne_22 (by decide) ?_
      exact hret rfl (bz_f (fun q => c_15 (i64_eq.mp (wv_one.mp q).2))) dX2_isOne_23
    · have c_15 : lo.toInt = (1 : Int) := lc_eq c_15
      refine lv_iconst (v := 1) hx hb dX2_isOne_18 (by decide) ?_
      refine lv_goto (tgt := 23) hx hb dX2_isOne_19 (by decide) ?_
      exact hret rfl (bz_t (wv_one.mpr ⟨i64_eq.mpr c_6, i64_eq.mpr c_15⟩)) dX2_isOne_23

set_option maxHeartbeats 4000000 in
set_option maxRecDepth 100000 in
theorem c_X2_isBelowUnsigned (l : Launch) (D : va_G) (cZ cI cJ : ClassId) (a b : Int64) : Ri l D cZ cI cJ yX2_isBelowUnsigned cX2_isBelowUnsigned 4 (some .boolean) { frames := 0, cells := 0, slots := 0, locals := 0 } [.long a, .long b] [] (fun r => r = bz (uN a < uN b)) := by
  refine Ri.of (by decide) ?_
  intro p e s m args below meth c Q hB hret hP
  obtain ⟨hx, hb, hr, hlocks, hml, hown, hnm, hTB, hK⟩ := hB
  have hown : s.vm.findClass RX2 = some m.cls := hown
  have hl := lv_entry ([.long a, .long b]) (n := 4) (Nat.le_of_ble_eq_true rfl)
  rw [lg_entry_eq]
  generalize (lg_sl ([.long a, .long b]) ++ List.replicate (4 - (lg_sl ([.long a, .long b])).length) Slot.unset).toArray = ls at hl ⊢
  have hl : lv_has ls 4 [(0, .long a), (2, .long b)] := hl
  refine lv_lload_n hx hb dX2_isBelowUnsigned_0 rfl (lv_at hl 0 rfl) ?_
  refine lv_ldc2 (v := (-9223372036854775808)) hx hb hown (hTB _ tb_5_19) dX2_isBelowUnsigned_1 ?_
  refine lv_lxor hx hb dX2_isBelowUnsigned_4 ?_
  refine lv_lload_n hx hb dX2_isBelowUnsigned_5 rfl (lv_at hl 1 rfl) ?_
  refine lv_ldc2 (v := (-9223372036854775808)) hx hb hown (hTB _ tb_5_19) dX2_isBelowUnsigned_6 ?_
  refine lv_lxor hx hb dX2_isBelowUnsigned_9 ?_
  refine W.lcmp hx hb dX2_isBelowUnsigned_10 ?_
  refine lv_if_ge (tgt := 18) hx hb dX2_isBelowUnsigned_11 (by decide) (fun c_11 => ?_) (fun c_11 => ?_)
  · have c_11 : (b ^^^ (-9223372036854775808)).toInt ≤ (a ^^^ (-9223372036854775808)).toInt := lc_ge c_11
    refine lv_iconst (v := 0) hx hb dX2_isBelowUnsigned_18 (by decide) ?_
    exact hret rfl (bz_f (fun q => by have := (below_iff a b).mpr q; rw [i64_lt] at this; omega)) dX2_isBelowUnsigned_19
  · have c_11 : (a ^^^ (-9223372036854775808)).toInt < (b ^^^ (-9223372036854775808)).toInt := lc_nge c_11
    refine lv_iconst (v := 1) hx hb dX2_isBelowUnsigned_14 (by decide) ?_
    refine lv_goto (tgt := 19) hx hb dX2_isBelowUnsigned_15 (by decide) ?_
    exact hret rfl (bz_t ((below_iff a b).mp (i64_lt.mpr c_11))) dX2_isBelowUnsigned_19

set_option maxHeartbeats 4000000 in
set_option maxRecDepth 100000 in
theorem c_X2_compare (l : Launch) (D : va_G) (cZ cI cJ : ClassId) (o x : Nat) (hi lo h2 l2 : Int64) : Ri l D cZ cI cJ yX2_compare cX2_compare 2 (some .int) { frames := 1, cells := 0, slots := 0, locals := 23 } [.ref o, .ref x] [(o, .inr (2, [.long hi, .long lo])), (x, .inr (2, [.long h2, .long l2]))] (fun r => r = cm (wv hi lo) (wv h2 l2)) := by
  refine Ri.of (by decide) ?_
  intro p e s m args below meth c Q hB hret hP
  obtain ⟨hx, hb, hr, hlocks, hml, hown, hnm, hTB, hK⟩ := hB
  have hown : s.vm.findClass RX2 = some m.cls := hown
  have hl := lv_entry ([.ref o, .ref x]) (n := 2) (Nat.le_of_ble_eq_true rfl)
  rw [lg_entry_eq]
  generalize (lg_sl ([.ref o, .ref x]) ++ List.replicate (2 - (lg_sl ([.ref o, .ref x])).length) Slot.unset).toArray = ls at hl ⊢
  have hl : lv_has ls 2 [(0, .ref o), (1, .ref x)] := hl
  refine lv_aload_n hx hb dX2_compare_0 rfl (lv_at hl 0 rfl) ?_
  refine va_get (D := D) (ci := 2) (v := .long hi) (C := RX2) (T := TX2) (N := 2) hx hb hTB tb_X2 hown hK.1 hP 0 rfl rfl 0 (by decide) (hTB _ tb_4_23) (fun _ h9 => h9) rfl dX2_compare_1 ?_
  refine lv_aload_n hx hb dX2_compare_4 rfl (lv_at hl 1 rfl) ?_
  refine va_get (D := D) (ci := 2) (v := .long h2) (C := RX2) (T := TX2) (N := 2) hx hb hTB tb_X2 hown hK.1 hP 1 rfl rfl 0 (by decide) (hTB _ tb_4_23) (fun _ h9 => h9) rfl dX2_compare_5 ?_
  refine W.lcmp hx hb dX2_compare_8 ?_
  refine lv_if_eq (tgt := 30) hx hb dX2_compare_9 (by decide) (fun c_9 => ?_) (fun c_9 => ?_)
  · have c_9 : hi.toInt = h2.toInt := lc_eq c_9
    refine lv_aload_n hx hb dX2_compare_30 rfl (lv_at hl 0 rfl) ?_
    refine va_get (D := D) (ci := 2) (v := .long lo) (C := RX2) (T := TX2) (N := 2) hx hb hTB tb_X2 hown hK.1 hP 0 rfl rfl 1 (by decide) (hTB _ tb_4_21) (fun _ h9 => h9) rfl dX2_compare_31 ?_
    refine lv_aload_n hx hb dX2_compare_34 rfl (lv_at hl 1 rfl) ?_
    refine va_get (D := D) (ci := 2) (v := .long l2) (C := RX2) (T := TX2) (N := 2) hx hb hTB tb_X2 hown hK.1 hP 1 rfl rfl 1 (by decide) (hTB _ tb_4_21) (fun _ h9 => h9) rfl dX2_compare_35 ?_
    refine W.lcmp hx hb dX2_compare_38 ?_
    refine lv_if_ne (tgt := 44) hx hb dX2_compare_39 (by decide) (fun c_39 => ?_) (fun c_39 => ?_)
    · have c_39 : lo.toInt ≠ l2.toInt := lc_ne c_39
      refine lv_aload_n hx hb dX2_compare_44 rfl (lv_at hl 0 rfl) ?_
      refine va_get (D := D) (ci := 2) (v := .long lo) (C := RX2) (T := TX2) (N := 2) hx hb hTB tb_X2 hown hK.1 hP 0 rfl rfl 1 (by decide) (hTB _ tb_4_21) (fun _ h9 => h9) rfl dX2_compare_45 ?_
      refine lv_aload_n hx hb dX2_compare_48 rfl (lv_at hl 1 rfl) ?_
      refine va_get (D := D) (ci := 2) (v := .long l2) (C := RX2) (T := TX2) (N := 2) hx hb hTB tb_X2 hown hK.1 hP 1 rfl rfl 1 (by decide) (hTB _ tb_4_21) (fun _ h9 => h9) rfl dX2_compare_49 ?_
      refine vp_callSi (va_runS (As := [.long lo, .long l2]) (rest := []) ⟨hx, hb, hml, hown, hTB⟩ (c_X2_isBelowUnsigned l D cZ cI cJ lo l2) (cw_S hTB tb_5_18 tb_2_9 tb_5_16 tb_5_17 nd_X2_isBelowUnsigned rfl rfl ⟨Nat.le_of_ble_eq_true rfl, Nat.le_of_ble_eq_true rfl⟩) (prr_S hK hP [] rfl) rfl rfl hl.1 rfl (lv_room (Nat.le_of_ble_eq_true rfl)) dX2_compare_52 ⟨Nat.le_of_ble_eq_true rfl, Nat.le_of_ble_eq_true rfl⟩).run (fun r52 hc52 => ?_)
      subst hc52
      refine lv_if_eq (tgt := 62) hx hb dX2_compare_55 (by decide) (fun c_55 => ?_) (fun c_55 => ?_)
      · have c_55 := bz_0 c_55
        refine lv_iconst (v := 1) hx hb dX2_compare_62 (by decide) ?_
        exact hret rfl (by have := uN_lt lo; have := uN_lt l2; have := uN_of lo; have := uN_of l2; have := sI_rng lo; have := sI_rng l2; unfold cm wv; split <;> (try split) <;> first | rfl | omega) dX2_compare_63
      · have c_55 := bz_1 c_55
        refine lv_iconst (v := (-1)) hx hb dX2_compare_58 (by decide) ?_
        refine lv_goto (tgt := 63) hx hb dX2_compare_59 (by decide) ?_
        exact hret rfl (by have := uN_lt lo; have := uN_lt l2; have := uN_of lo; have := uN_of l2; have := sI_rng lo; have := sI_rng l2; unfold cm wv; split <;> (try split) <;> first | rfl | omega) dX2_compare_63
    · have c_39 : lo.toInt = l2.toInt := lc_eq c_39
      refine lv_iconst (v := 0) hx hb dX2_compare_42 (by decide) ?_
      exact hret rfl (by have := uN_lt lo; have := uN_lt l2; have := uN_of lo; have := uN_of l2; have := sI_rng lo; have := sI_rng l2; unfold cm wv; split <;> (try split) <;> first | rfl | omega) dX2_compare_43
  · have c_9 : hi.toInt ≠ h2.toInt := lc_ne c_9
    refine lv_aload_n hx hb dX2_compare_12 rfl (lv_at hl 0 rfl) ?_
    refine va_get (D := D) (ci := 2) (v := .long hi) (C := RX2) (T := TX2) (N := 2) hx hb hTB tb_X2 hown hK.1 hP 0 rfl rfl 0 (by decide) (hTB _ tb_4_23) (fun _ h9 => h9) rfl dX2_compare_13 ?_
    refine lv_aload_n hx hb dX2_compare_16 rfl (lv_at hl 1 rfl) ?_
    refine va_get (D := D) (ci := 2) (v := .long h2) (C := RX2) (T := TX2) (N := 2) hx hb hTB tb_X2 hown hK.1 hP 1 rfl rfl 0 (by decide) (hTB _ tb_4_23) (fun _ h9 => h9) rfl dX2_compare_17 ?_
    refine W.lcmp hx hb dX2_compare_20 ?_
    refine lv_if_ge (tgt := 28) hx hb dX2_compare_21 (by decide) (fun c_21 => ?_) (fun c_21 => ?_)
    · have c_21 : h2.toInt ≤ hi.toInt := lc_ge c_21
      refine lv_iconst (v := 1) hx hb dX2_compare_28 (by decide) ?_
      exact hret rfl (by have := uN_lt lo; have := uN_lt l2; have := uN_of lo; have := uN_of l2; have := sI_rng lo; have := sI_rng l2; unfold cm wv; split <;> (try split) <;> first | rfl | omega) dX2_compare_29
    · have c_21 : hi.toInt < h2.toInt := lc_nge c_21
      refine lv_iconst (v := (-1)) hx hb dX2_compare_24 (by decide) ?_
      refine lv_goto (tgt := 29) hx hb dX2_compare_25 (by decide) ?_
      exact hret rfl (by have := uN_lt lo; have := uN_lt l2; have := uN_of lo; have := uN_of l2; have := sI_rng lo; have := sI_rng l2; unfold cm wv; split <;> (try split) <;> first | rfl | omega) dX2_compare_29

set_option maxHeartbeats 4000000 in
set_option maxRecDepth 100000 in
theorem c_X2_negate (l : Launch) (D : va_G) (cZ cI cJ : ClassId) (o : Nat) (hi lo : Int64) : Cv l D cZ cI cJ yX2_negate cX2_negate 1 { frames := 0, cells := 0, slots := 0, locals := 0 } [.ref o] [(o, .inr (2, [.long hi, .long lo]))] (S := Int64 × Int64) (fun u => In (-(wv hi lo)) → wv u.1 u.2 = -(wv hi lo)) (fun u => [(o, .inr (2, [.long u.1, .long u.2]))]) := by
  refine Cv.of (by decide) ?_
  intro p e s m args below meth c A Q hB hret hP hD hA
  obtain ⟨hx, hb, hr, hlocks, hml, hown, hnm, hTB, hK⟩ := hB
  have hown : s.vm.findClass RX2 = some m.cls := hown
  have hS : va_S A s.heap s.heap [] := va_S.rf
  have hl := lv_entry ([.ref o]) (n := 1) (Nat.le_of_ble_eq_true rfl)
  rw [lg_entry_eq]
  generalize (lg_sl ([.ref o]) ++ List.replicate (1 - (lg_sl ([.ref o])).length) Slot.unset).toArray = ls at hl ⊢
  have hl : lv_has ls 1 [(0, .ref o)] := hl
  refine lv_aload_n hx hb dX2_negate_0 rfl (lv_at hl 0 rfl) ?_
  refine lv_aload_n hx hb dX2_negate_1 rfl (lv_at hl 0 rfl) ?_
  refine va_get (D := D) (ci := 2) (v := .long lo) (C := RX2) (T := TX2) (N := 2) hx hb hTB tb_X2 hown hK.1 hP 0 rfl rfl 1 (by decide) (hTB _ tb_4_21) (fun _ h9 => h9) rfl dX2_negate_2 ?_
  refine lv_lneg hx hb dX2_negate_5 ?_
  refine va_put (D := D) (ci := 2) (v := .long (-lo)) (ty := .long) (C := RX2) (T := TX2) (N := 2) hx hb hTB tb_X2 tyX2 tyX2_ok nmX2 hown hK.1 hP hD hS 0 rfl rfl 1 (by decide) (hTB _ tb_4_21) (fun _ h9 => h9) rfl (by decide +kernel) rfl rfl (Nat.le_of_ble_eq_true rfl) dX2_negate_6 (fun H locs hP hD hS => ?_)
  have hP : va_P D vwCl [(o, .inr (2, [.long hi, .long (-lo)]))] H := hP
  have hD : va_D A [(o, .inr (2, [.long hi, .long (-lo)]))] := hD
  refine lv_aload_n hx hb dX2_negate_9 rfl (lv_at hl 0 rfl) ?_
  refine lv_aload_n hx hb dX2_negate_10 rfl (lv_at hl 0 rfl) ?_
  refine va_get (D := D) (ci := 2) (v := .long (-lo)) (C := RX2) (T := TX2) (N := 2) hx hb hTB tb_X2 hown hK.1 hP 0 rfl rfl 1 (by decide) (hTB _ tb_4_21) (fun _ h9 => h9) rfl dX2_negate_11 ?_
  refine lv_lconst (v := 0) hx hb dX2_negate_14 (by decide) ?_
  refine W.lcmp hx hb dX2_negate_15 ?_
  refine lv_if_ne (tgt := 27) hx hb dX2_negate_16 (by decide) (fun c_16 => ?_) (fun c_16 => ?_)
  · have c_16 : (-lo).toInt ≠ (0 : Int) := lc_ne c_16
    refine lv_aload_n hx hb dX2_negate_27 rfl (lv_at hl 0 rfl) ?_
    refine va_get (D := D) (ci := 2) (v := .long hi) (C := RX2) (T := TX2) (N := 2) hx hb hTB tb_X2 hown hK.1 hP 0 rfl rfl 0 (by decide) (hTB _ tb_4_23) (fun _ h9 => h9) rfl dX2_negate_28 ?_
    refine lv_ldc2 (v := (-1)) hx hb hown (hTB _ tb_4_22) dX2_negate_31 ?_
    refine lv_lxor hx hb dX2_negate_34 ?_
    refine va_put (D := D) (ci := 2) (v := .long (hi ^^^ (-1))) (ty := .long) (C := RX2) (T := TX2) (N := 2) hx hb hTB tb_X2 tyX2 tyX2_ok nmX2 hown hK.1 hP hD hS 0 rfl rfl 0 (by decide) (hTB _ tb_4_23) (fun _ h9 => h9) rfl (by decide +kernel) rfl rfl (Nat.le_of_ble_eq_true rfl) dX2_negate_35 (fun H locs hP hD hS => ?_)
    have hP : va_P D vwCl [(o, .inr (2, [.long (hi ^^^ (-1)), .long (-lo)]))] H := hP
    have hD : va_D A [(o, .inr (2, [.long (hi ^^^ (-1)), .long (-lo)]))] := hD
    exact hret hP hD hS (hi ^^^ (-1), -lo) (fun hz => wv_neg1 (fun q => c_16 (i64_eq.mp q)) hz) [0] rfl (by decide) dX2_negate_38 (Nat.le_of_ble_eq_true rfl) (Nat.le_of_ble_eq_true rfl)
  · have c_16 : (-lo).toInt = (0 : Int) := lc_eq c_16
    refine lv_aload_n hx hb dX2_negate_19 rfl (lv_at hl 0 rfl) ?_
    refine va_get (D := D) (ci := 2) (v := .long hi) (C := RX2) (T := TX2) (N := 2) hx hb hTB tb_X2 hown hK.1 hP 0 rfl rfl 0 (by decide) (hTB _ tb_4_23) (fun _ h9 => h9) rfl dX2_negate_20 ?_
    refine lv_lneg hx hb dX2_negate_23 ?_
    refine lv_goto (tgt := 35) hx hb dX2_negate_24 (by decide) ?_
    refine va_put (D := D) (ci := 2) (v := .long (-hi)) (ty := .long) (C := RX2) (T := TX2) (N := 2) hx hb hTB tb_X2 tyX2 tyX2_ok nmX2 hown hK.1 hP hD hS 0 rfl rfl 0 (by decide) (hTB _ tb_4_23) (fun _ h9 => h9) rfl (by decide +kernel) rfl rfl (Nat.le_of_ble_eq_true rfl) dX2_negate_35 (fun H locs hP hD hS => ?_)
    have hP : va_P D vwCl [(o, .inr (2, [.long (-hi), .long (-lo)]))] H := hP
    have hD : va_D A [(o, .inr (2, [.long (-hi), .long (-lo)]))] := hD
    exact hret hP hD hS (-hi, -lo) (fun hz => wv_neg0 (i64_eq.mpr c_16) hz) [0] rfl (by decide) dX2_negate_38 (Nat.le_of_ble_eq_true rfl) (Nat.le_of_ble_eq_true rfl)

set_option maxHeartbeats 4000000 in
set_option maxRecDepth 100000 in
theorem c_X2_addParts (l : Launch) (D : va_G) (cZ cI cJ : ClassId) (o : Nat) (hi lo : Int64) (oh ol : Int64) : Cv l D cZ cI cJ yX2_addParts cX2_addParts 5 { frames := 1, cells := 0, slots := 0, locals := 23 } [.ref o, .long oh, .long ol] [(o, .inr (2, [.long hi, .long lo]))] (S := Int64 × Int64) (fun u => In (wv hi lo + wv oh ol) → wv u.1 u.2 = wv hi lo + wv oh ol) (fun u => [(o, .inr (2, [.long u.1, .long u.2]))]) := by
  refine Cv.of (by decide) ?_
  intro p e s m args below meth c A Q hB hret hP hD hA
  obtain ⟨hx, hb, hr, hlocks, hml, hown, hnm, hTB, hK⟩ := hB
  have hown : s.vm.findClass RX2 = some m.cls := hown
  have hS : va_S A s.heap s.heap [] := va_S.rf
  have hl := lv_entry ([.ref o, .long oh, .long ol]) (n := 5) (Nat.le_of_ble_eq_true rfl)
  rw [lg_entry_eq]
  generalize (lg_sl ([.ref o, .long oh, .long ol]) ++ List.replicate (5 - (lg_sl ([.ref o, .long oh, .long ol])).length) Slot.unset).toArray = ls at hl ⊢
  have hl : lv_has ls 5 [(0, .ref o), (1, .long oh), (3, .long ol)] := hl
  refine lv_aload_n hx hb dX2_addParts_0 rfl (lv_at hl 0 rfl) ?_
  refine lv_dup hx hb dX2_addParts_1 rfl ?_
  refine va_get (D := D) (ci := 2) (v := .long lo) (C := RX2) (T := TX2) (N := 2) hx hb hTB tb_X2 hown hK.1 hP 0 rfl rfl 1 (by decide) (hTB _ tb_4_21) (fun _ h9 => h9) rfl dX2_addParts_2 ?_
  refine lv_lload_n hx hb dX2_addParts_5 rfl (lv_at hl 2 rfl) ?_
  refine lv_ladd hx hb dX2_addParts_6 ?_
  refine va_put (D := D) (ci := 2) (v := .long (lo + ol)) (ty := .long) (C := RX2) (T := TX2) (N := 2) hx hb hTB tb_X2 tyX2 tyX2_ok nmX2 hown hK.1 hP hD hS 0 rfl rfl 1 (by decide) (hTB _ tb_4_21) (fun _ h9 => h9) rfl (by decide +kernel) rfl rfl (Nat.le_of_ble_eq_true rfl) dX2_addParts_7 (fun H locs hP hD hS => ?_)
  have hP : va_P D vwCl [(o, .inr (2, [.long hi, .long (lo + ol)]))] H := hP
  have hD : va_D A [(o, .inr (2, [.long hi, .long (lo + ol)]))] := hD
  refine lv_aload_n hx hb dX2_addParts_10 rfl (lv_at hl 0 rfl) ?_
  refine lv_dup hx hb dX2_addParts_11 rfl ?_
  refine va_get (D := D) (ci := 2) (v := .long hi) (C := RX2) (T := TX2) (N := 2) hx hb hTB tb_X2 hown hK.1 hP 0 rfl rfl 0 (by decide) (hTB _ tb_4_23) (fun _ h9 => h9) rfl dX2_addParts_12 ?_
  refine lv_lload_n hx hb dX2_addParts_15 rfl (lv_at hl 1 rfl) ?_
  refine lv_ladd hx hb dX2_addParts_16 ?_
  refine va_put (D := D) (ci := 2) (v := .long (hi + oh)) (ty := .long) (C := RX2) (T := TX2) (N := 2) hx hb hTB tb_X2 tyX2 tyX2_ok nmX2 hown hK.1 hP hD hS 0 rfl rfl 0 (by decide) (hTB _ tb_4_23) (fun _ h9 => h9) rfl (by decide +kernel) rfl rfl (Nat.le_of_ble_eq_true rfl) dX2_addParts_17 (fun H locs hP hD hS => ?_)
  have hP : va_P D vwCl [(o, .inr (2, [.long (hi + oh), .long (lo + ol)]))] H := hP
  have hD : va_D A [(o, .inr (2, [.long (hi + oh), .long (lo + ol)]))] := hD
  refine lv_aload_n hx hb dX2_addParts_20 rfl (lv_at hl 0 rfl) ?_
  refine va_get (D := D) (ci := 2) (v := .long (lo + ol)) (C := RX2) (T := TX2) (N := 2) hx hb hTB tb_X2 hown hK.1 hP 0 rfl rfl 1 (by decide) (hTB _ tb_4_21) (fun _ h9 => h9) rfl dX2_addParts_21 ?_
  refine lv_lload_n hx hb dX2_addParts_24 rfl (lv_at hl 2 rfl) ?_
  refine vp_callSi (va_runS (As := [.long (lo + ol), .long ol]) (rest := []) ⟨hx, hb, hml, hown, hTB⟩ (c_X2_isBelowUnsigned l D cZ cI cJ (lo + ol) ol) (cw_S hTB tb_5_18 tb_2_9 tb_5_16 tb_5_17 nd_X2_isBelowUnsigned rfl rfl ⟨Nat.le_of_ble_eq_true rfl, Nat.le_of_ble_eq_true rfl⟩) (prr_S hK hP [] rfl) rfl rfl hl.1 rfl (lv_room (Nat.le_of_ble_eq_true rfl)) dX2_addParts_25 ⟨Nat.le_of_ble_eq_true rfl, Nat.le_of_ble_eq_true rfl⟩).run (fun r25 hc25 => ?_)
  subst hc25
  refine lv_if_eq (tgt := 41) hx hb dX2_addParts_28 (by decide) (fun c_28 => ?_) (fun c_28 => ?_)
  · have c_28 := bz_0 c_28
    exact hret hP hD hS (hi + oh, lo + ol) (fun hz => wv_add0 c_28 hz) [0] rfl (by decide) dX2_addParts_41 (Nat.le_of_ble_eq_true rfl) (Nat.le_of_ble_eq_true rfl)
  · have c_28 := bz_1 c_28
    refine lv_aload_n hx hb dX2_addParts_31 rfl (lv_at hl 0 rfl) ?_
    refine lv_dup hx hb dX2_addParts_32 rfl ?_
    refine va_get (D := D) (ci := 2) (v := .long (hi + oh)) (C := RX2) (T := TX2) (N := 2) hx hb hTB tb_X2 hown hK.1 hP 0 rfl rfl 0 (by decide) (hTB _ tb_4_23) (fun _ h9 => h9) rfl dX2_addParts_33 ?_
    refine lv_lconst (v := 1) hx hb dX2_addParts_36 (by decide) ?_
    refine lv_ladd hx hb dX2_addParts_37 ?_
    refine va_put (D := D) (ci := 2) (v := .long ((hi + oh) + 1)) (ty := .long) (C := RX2) (T := TX2) (N := 2) hx hb hTB tb_X2 tyX2 tyX2_ok nmX2 hown hK.1 hP hD hS 0 rfl rfl 0 (by decide) (hTB _ tb_4_23) (fun _ h9 => h9) rfl (by decide +kernel) rfl rfl (Nat.le_of_ble_eq_true rfl) dX2_addParts_38 (fun H locs hP hD hS => ?_)
    have hP : va_P D vwCl [(o, .inr (2, [.long ((hi + oh) + 1), .long (lo + ol)]))] H := hP
    have hD : va_D A [(o, .inr (2, [.long ((hi + oh) + 1), .long (lo + ol)]))] := hD
    exact hret hP hD hS ((hi + oh) + 1, lo + ol) (fun hz => wv_add1 c_28 hz) [0] rfl (by decide) dX2_addParts_41 (Nat.le_of_ble_eq_true rfl) (Nat.le_of_ble_eq_true rfl)

set_option maxHeartbeats 4000000 in
set_option maxRecDepth 100000 in
theorem c_X2_subtract (l : Launch) (D : va_G) (cZ cI cJ : ClassId) (o x : Nat) (hi lo h2 l2 : Int64) : Cv l D cZ cI cJ yX2_subtract cX2_subtract 2 { frames := 1, cells := 0, slots := 0, locals := 23 } [.ref o, .ref x] [(o, .inr (2, [.long hi, .long lo])), (x, .inr (2, [.long h2, .long l2]))] (S := Int64 × Int64) (fun u => In (wv hi lo - wv h2 l2) → wv u.1 u.2 = wv hi lo - wv h2 l2) (fun u => [(o, .inr (2, [.long u.1, .long u.2])), (x, .inr (2, [.long h2, .long l2]))]) := by
  refine Cv.of (by decide) ?_
  intro p e s m args below meth c A Q hB hret hP hD hA
  obtain ⟨hx, hb, hr, hlocks, hml, hown, hnm, hTB, hK⟩ := hB
  have hown : s.vm.findClass RX2 = some m.cls := hown
  have hS : va_S A s.heap s.heap [] := va_S.rf
  have hl := lv_entry ([.ref o, .ref x]) (n := 2) (Nat.le_of_ble_eq_true rfl)
  rw [lg_entry_eq]
  generalize (lg_sl ([.ref o, .ref x]) ++ List.replicate (2 - (lg_sl ([.ref o, .ref x])).length) Slot.unset).toArray = ls at hl ⊢
  have hl : lv_has ls 2 [(0, .ref o), (1, .ref x)] := hl
  refine lv_aload_n hx hb dX2_subtract_0 rfl (lv_at hl 0 rfl) ?_
  refine va_get (D := D) (ci := 2) (v := .long lo) (C := RX2) (T := TX2) (N := 2) hx hb hTB tb_X2 hown hK.1 hP 0 rfl rfl 1 (by decide) (hTB _ tb_4_21) (fun _ h9 => h9) rfl dX2_subtract_1 ?_
  refine lv_aload_n hx hb dX2_subtract_4 rfl (lv_at hl 1 rfl) ?_
  refine va_get (D := D) (ci := 2) (v := .long l2) (C := RX2) (T := TX2) (N := 2) hx hb hTB tb_X2 hown hK.1 hP 1 rfl rfl 1 (by decide) (hTB _ tb_4_21) (fun _ h9 => h9) rfl dX2_subtract_5 ?_
  refine vp_callSi (va_runS (As := [.long lo, .long l2]) (rest := []) ⟨hx, hb, hml, hown, hTB⟩ (c_X2_isBelowUnsigned l D cZ cI cJ lo l2) (cw_S hTB tb_5_18 tb_2_9 tb_5_16 tb_5_17 nd_X2_isBelowUnsigned rfl rfl ⟨Nat.le_of_ble_eq_true rfl, Nat.le_of_ble_eq_true rfl⟩) (prr_S hK hP [] rfl) rfl rfl hl.1 rfl (lv_room (Nat.le_of_ble_eq_true rfl)) dX2_subtract_8 ⟨Nat.le_of_ble_eq_true rfl, Nat.le_of_ble_eq_true rfl⟩).run (fun r8 hc8 => ?_)
  subst hc8
  refine lv_if_eq (tgt := 24) hx hb dX2_subtract_11 (by decide) (fun c_11 => ?_) (fun c_11 => ?_)
  · have c_11 := bz_0 c_11
    refine lv_aload_n hx hb dX2_subtract_24 rfl (lv_at hl 0 rfl) ?_
    refine lv_dup hx hb dX2_subtract_25 rfl ?_
    refine va_get (D := D) (ci := 2) (v := .long lo) (C := RX2) (T := TX2) (N := 2) hx hb hTB tb_X2 hown hK.1 hP 0 rfl rfl 1 (by decide) (hTB _ tb_4_21) (fun _ h9 => h9) rfl dX2_subtract_26 ?_
    refine lv_aload_n hx hb dX2_subtract_29 rfl (lv_at hl 1 rfl) ?_
    refine va_get (D := D) (ci := 2) (v := .long l2) (C := RX2) (T := TX2) (N := 2) hx hb hTB tb_X2 hown hK.1 hP 1 rfl rfl 1 (by decide) (hTB _ tb_4_21) (fun _ h9 => h9) rfl dX2_subtract_30 ?_
    refine lv_lsub hx hb dX2_subtract_33 ?_
    refine va_put (D := D) (ci := 2) (v := .long (lo - l2)) (ty := .long) (C := RX2) (T := TX2) (N := 2) hx hb hTB tb_X2 tyX2 tyX2_ok nmX2 hown hK.1 hP hD hS 0 rfl rfl 1 (by decide) (hTB _ tb_4_21) (fun _ h9 => h9) rfl (by decide +kernel) rfl rfl (Nat.le_of_ble_eq_true rfl) dX2_subtract_34 (fun H locs hP hD hS => ?_)
    have hP : va_P D vwCl [(o, .inr (2, [.long hi, .long (lo - l2)])), (x, .inr (2, [.long h2, .long l2]))] H := hP
    have hD : va_D A [(o, .inr (2, [.long hi, .long (lo - l2)])), (x, .inr (2, [.long h2, .long l2]))] := hD
    refine lv_aload_n hx hb dX2_subtract_37 rfl (lv_at hl 0 rfl) ?_
    refine lv_dup hx hb dX2_subtract_38 rfl ?_
    refine va_get (D := D) (ci := 2) (v := .long hi) (C := RX2) (T := TX2) (N := 2) hx hb hTB tb_X2 hown hK.1 hP 0 rfl rfl 0 (by decide) (hTB _ tb_4_23) (fun _ h9 => h9) rfl dX2_subtract_39 ?_
    refine lv_aload_n hx hb dX2_subtract_42 rfl (lv_at hl 1 rfl) ?_
    refine va_get (D := D) (ci := 2) (v := .long h2) (C := RX2) (T := TX2) (N := 2) hx hb hTB tb_X2 hown hK.1 hP 1 rfl rfl 0 (by decide) (hTB _ tb_4_23) (fun _ h9 => h9) rfl dX2_subtract_43 ?_
    refine lv_lsub hx hb dX2_subtract_46 ?_
    refine va_put (D := D) (ci := 2) (v := .long (hi - h2)) (ty := .long) (C := RX2) (T := TX2) (N := 2) hx hb hTB tb_X2 tyX2 tyX2_ok nmX2 hown hK.1 hP hD hS 0 rfl rfl 0 (by decide) (hTB _ tb_4_23) (fun _ h9 => h9) rfl (by decide +kernel) rfl rfl (Nat.le_of_ble_eq_true rfl) dX2_subtract_47 (fun H locs hP hD hS => ?_)
    have hP : va_P D vwCl [(o, .inr (2, [.long (hi - h2), .long (lo - l2)])), (x, .inr (2, [.long h2, .long l2]))] H := hP
    have hD : va_D A [(o, .inr (2, [.long (hi - h2), .long (lo - l2)])), (x, .inr (2, [.long h2, .long l2]))] := hD
    exact hret hP hD hS (hi - h2, lo - l2) (fun hz => wv_sub0 c_11 hz) [0, 1] rfl (by decide) dX2_subtract_50 (Nat.le_of_ble_eq_true rfl) (Nat.le_of_ble_eq_true rfl)
  · have c_11 := bz_1 c_11
    refine lv_aload_n hx hb dX2_subtract_14 rfl (lv_at hl 0 rfl) ?_
    refine lv_dup hx hb dX2_subtract_15 rfl ?_
    refine va_get (D := D) (ci := 2) (v := .long hi) (C := RX2) (T := TX2) (N := 2) hx hb hTB tb_X2 hown hK.1 hP 0 rfl rfl 0 (by decide) (hTB _ tb_4_23) (fun _ h9 => h9) rfl dX2_subtract_16 ?_
    refine lv_lconst (v := 1) hx hb dX2_subtract_19 (by decide) ?_
    refine lv_lsub hx hb dX2_subtract_20 ?_
    refine va_put (D := D) (ci := 2) (v := .long (hi - 1)) (ty := .long) (C := RX2) (T := TX2) (N := 2) hx hb hTB tb_X2 tyX2 tyX2_ok nmX2 hown hK.1 hP hD hS 0 rfl rfl 0 (by decide) (hTB _ tb_4_23) (fun _ h9 => h9) rfl (by decide +kernel) rfl rfl (Nat.le_of_ble_eq_true rfl) dX2_subtract_21 (fun H locs hP hD hS => ?_)
    have hP : va_P D vwCl [(o, .inr (2, [.long (hi - 1), .long lo])), (x, .inr (2, [.long h2, .long l2]))] H := hP
    have hD : va_D A [(o, .inr (2, [.long (hi - 1), .long lo])), (x, .inr (2, [.long h2, .long l2]))] := hD
    refine lv_aload_n hx hb dX2_subtract_24 rfl (lv_at hl 0 rfl) ?_
    refine lv_dup hx hb dX2_subtract_25 rfl ?_
    refine va_get (D := D) (ci := 2) (v := .long lo) (C := RX2) (T := TX2) (N := 2) hx hb hTB tb_X2 hown hK.1 hP 0 rfl rfl 1 (by decide) (hTB _ tb_4_21) (fun _ h9 => h9) rfl dX2_subtract_26 ?_
    refine lv_aload_n hx hb dX2_subtract_29 rfl (lv_at hl 1 rfl) ?_
    refine va_get (D := D) (ci := 2) (v := .long l2) (C := RX2) (T := TX2) (N := 2) hx hb hTB tb_X2 hown hK.1 hP 1 rfl rfl 1 (by decide) (hTB _ tb_4_21) (fun _ h9 => h9) rfl dX2_subtract_30 ?_
    refine lv_lsub hx hb dX2_subtract_33 ?_
    refine va_put (D := D) (ci := 2) (v := .long (lo - l2)) (ty := .long) (C := RX2) (T := TX2) (N := 2) hx hb hTB tb_X2 tyX2 tyX2_ok nmX2 hown hK.1 hP hD hS 0 rfl rfl 1 (by decide) (hTB _ tb_4_21) (fun _ h9 => h9) rfl (by decide +kernel) rfl rfl (Nat.le_of_ble_eq_true rfl) dX2_subtract_34 (fun H locs hP hD hS => ?_)
    have hP : va_P D vwCl [(o, .inr (2, [.long (hi - 1), .long (lo - l2)])), (x, .inr (2, [.long h2, .long l2]))] H := hP
    have hD : va_D A [(o, .inr (2, [.long (hi - 1), .long (lo - l2)])), (x, .inr (2, [.long h2, .long l2]))] := hD
    refine lv_aload_n hx hb dX2_subtract_37 rfl (lv_at hl 0 rfl) ?_
    refine lv_dup hx hb dX2_subtract_38 rfl ?_
    refine va_get (D := D) (ci := 2) (v := .long (hi - 1)) (C := RX2) (T := TX2) (N := 2) hx hb hTB tb_X2 hown hK.1 hP 0 rfl rfl 0 (by decide) (hTB _ tb_4_23) (fun _ h9 => h9) rfl dX2_subtract_39 ?_
    refine lv_aload_n hx hb dX2_subtract_42 rfl (lv_at hl 1 rfl) ?_
    refine va_get (D := D) (ci := 2) (v := .long h2) (C := RX2) (T := TX2) (N := 2) hx hb hTB tb_X2 hown hK.1 hP 1 rfl rfl 0 (by decide) (hTB _ tb_4_23) (fun _ h9 => h9) rfl dX2_subtract_43 ?_
    refine lv_lsub hx hb dX2_subtract_46 ?_
    refine va_put (D := D) (ci := 2) (v := .long ((hi - 1) - h2)) (ty := .long) (C := RX2) (T := TX2) (N := 2) hx hb hTB tb_X2 tyX2 tyX2_ok nmX2 hown hK.1 hP hD hS 0 rfl rfl 0 (by decide) (hTB _ tb_4_23) (fun _ h9 => h9) rfl (by decide +kernel) rfl rfl (Nat.le_of_ble_eq_true rfl) dX2_subtract_47 (fun H locs hP hD hS => ?_)
    have hP : va_P D vwCl [(o, .inr (2, [.long ((hi - 1) - h2), .long (lo - l2)])), (x, .inr (2, [.long h2, .long l2]))] H := hP
    have hD : va_D A [(o, .inr (2, [.long ((hi - 1) - h2), .long (lo - l2)])), (x, .inr (2, [.long h2, .long l2]))] := hD
    exact hret hP hD hS ((hi - 1) - h2, lo - l2) (fun hz => wv_sub1 c_11 hz) [0, 1] rfl (by decide) dX2_subtract_50 (Nat.le_of_ble_eq_true rfl) (Nat.le_of_ble_eq_true rfl)

set_option maxHeartbeats 4000000 in
set_option maxRecDepth 100000 in
theorem c_X2_highOfProduct (l : Launch) (D : va_G) (cZ cI cJ : ClassId) (a b : Int64) : Rl l D cZ cI cJ yX2_highOfProduct cX2_highOfProduct 16 (some .long) { frames := 0, cells := 0, slots := 0, locals := 0 } [.long a, .long b] [] (fun r => r = hop a b) := by
  refine Rl.of (by decide) ?_
  intro p e s m args below meth c Q hB hret hP
  obtain ⟨hx, hb, hr, hlocks, hml, hown, hnm, hTB, hK⟩ := hB
  have hown : s.vm.findClass RX2 = some m.cls := hown
  have hl := lv_entry ([.long a, .long b]) (n := 16) (Nat.le_of_ble_eq_true rfl)
  rw [lg_entry_eq]
  generalize (lg_sl ([.long a, .long b]) ++ List.replicate (16 - (lg_sl ([.long a, .long b])).length) Slot.unset).toArray = ls at hl ⊢
  have hl : lv_has ls 16 [(0, .long a), (2, .long b)] := hl
  refine lv_lload_n hx hb dX2_highOfProduct_0 rfl (lv_at hl 0 rfl) ?_
  refine lv_ldc2 (v := 4294967295) hx hb hown (hTB _ tb_5_11) dX2_highOfProduct_1 ?_
  refine lv_land hx hb dX2_highOfProduct_4 ?_
  refine lv_lstore (lv' := [(4, .long (a &&& 4294967295)), (0, .long a), (2, .long b)]) hx hb dX2_highOfProduct_5 hl (by decide) rfl (fun ls hl => ?_)
  refine lv_lload_n hx hb dX2_highOfProduct_7 rfl (lv_at hl 1 rfl) ?_
  refine lv_bipush (v := 32) hx hb dX2_highOfProduct_8 (by decide) ?_
  refine lv_lshr (v := a >>> ((32 : Int32).toInt64 &&& 63)) hx hb dX2_highOfProduct_10 rfl ?_
  refine lv_lstore (lv' := [(6, .long (a >>> ((32 : Int32).toInt64 &&& 63))), (4, .long (a &&& 4294967295)), (0, .long a), (2, .long b)]) hx hb dX2_highOfProduct_11 hl (by decide) rfl (fun ls hl => ?_)
  refine lv_lload_n hx hb dX2_highOfProduct_13 rfl (lv_at hl 3 rfl) ?_
  refine lv_ldc2 (v := 4294967295) hx hb hown (hTB _ tb_5_11) dX2_highOfProduct_14 ?_
  refine lv_land hx hb dX2_highOfProduct_17 ?_
  refine lv_lstore (lv' := [(8, .long (b &&& 4294967295)), (6, .long (a >>> ((32 : Int32).toInt64 &&& 63))), (4, .long (a &&& 4294967295)), (0, .long a), (2, .long b)]) hx hb dX2_highOfProduct_18 hl (by decide) rfl (fun ls hl => ?_)
  refine lv_lload_n hx hb dX2_highOfProduct_20 rfl (lv_at hl 4 rfl) ?_
  refine lv_bipush (v := 32) hx hb dX2_highOfProduct_21 (by decide) ?_
  refine lv_lshr (v := b >>> ((32 : Int32).toInt64 &&& 63)) hx hb dX2_highOfProduct_23 rfl ?_
  refine lv_lstore (lv' := [(10, .long (b >>> ((32 : Int32).toInt64 &&& 63))), (8, .long (b &&& 4294967295)), (6, .long (a >>> ((32 : Int32).toInt64 &&& 63))), (4, .long (a &&& 4294967295)), (0, .long a), (2, .long b)]) hx hb dX2_highOfProduct_24 hl (by decide) rfl (fun ls hl => ?_)
  refine lv_lload hx hb dX2_highOfProduct_26 (lv_at hl 2 rfl) ?_
  refine lv_lload hx hb dX2_highOfProduct_28 (lv_at hl 1 rfl) ?_
  refine lv_lmul hx hb dX2_highOfProduct_30 ?_
  refine lv_lload hx hb dX2_highOfProduct_31 (lv_at hl 3 rfl) ?_
  refine lv_lload hx hb dX2_highOfProduct_33 (lv_at hl 1 rfl) ?_
  refine lv_lmul hx hb dX2_highOfProduct_35 ?_
  refine lv_bipush (v := 32) hx hb dX2_highOfProduct_36 (by decide) ?_
  refine lv_lushr (v := (((a &&& 4294967295) * (b &&& 4294967295)).toUInt64 >>> ((32 : Int32).toInt64.toUInt64 &&& Int64.toUInt64 63)).toInt64) hx hb dX2_highOfProduct_38 rfl ?_
  refine lv_ladd hx hb dX2_highOfProduct_39 ?_
  refine lv_lstore (lv' := [(12, .long (((a >>> ((32 : Int32).toInt64 &&& 63)) * (b &&& 4294967295)) + ((((a &&& 4294967295) * (b &&& 4294967295)).toUInt64 >>> ((32 : Int32).toInt64.toUInt64 &&& Int64.toUInt64 63)).toInt64))), (10, .long (b >>> ((32 : Int32).toInt64 &&& 63))), (8, .long (b &&& 4294967295)), (6, .long (a >>> ((32 : Int32).toInt64 &&& 63))), (4, .long (a &&& 4294967295)), (0, .long a), (2, .long b)]) hx hb dX2_highOfProduct_40 hl (by decide) rfl (fun ls hl => ?_)
  refine lv_lload hx hb dX2_highOfProduct_42 (lv_at hl 4 rfl) ?_
  refine lv_lload hx hb dX2_highOfProduct_44 (lv_at hl 1 rfl) ?_
  refine lv_lmul hx hb dX2_highOfProduct_46 ?_
  refine lv_lload hx hb dX2_highOfProduct_47 (lv_at hl 0 rfl) ?_
  refine lv_ldc2 (v := 4294967295) hx hb hown (hTB _ tb_5_11) dX2_highOfProduct_49 ?_
  refine lv_land hx hb dX2_highOfProduct_52 ?_
  refine lv_ladd hx hb dX2_highOfProduct_53 ?_
  refine lv_lstore (lv' := [(14, .long (((a &&& 4294967295) * (b >>> ((32 : Int32).toInt64 &&& 63))) + ((((a >>> ((32 : Int32).toInt64 &&& 63)) * (b &&& 4294967295)) + ((((a &&& 4294967295) * (b &&& 4294967295)).toUInt64 >>> ((32 : Int32).toInt64.toUInt64 &&& Int64.toUInt64 63)).toInt64)) &&& 4294967295))), (12, .long (((a >>> ((32 : Int32).toInt64 &&& 63)) * (b &&& 4294967295)) + ((((a &&& 4294967295) * (b &&& 4294967295)).toUInt64 >>> ((32 : Int32).toInt64.toUInt64 &&& Int64.toUInt64 63)).toInt64))), (10, .long (b >>> ((32 : Int32).toInt64 &&& 63))), (8, .long (b &&& 4294967295)), (6, .long (a >>> ((32 : Int32).toInt64 &&& 63))), (4, .long (a &&& 4294967295)), (0, .long a), (2, .long b)]) hx hb dX2_highOfProduct_54 hl (by decide) rfl (fun ls hl => ?_)
  refine lv_lload hx hb dX2_highOfProduct_56 (lv_at hl 4 rfl) ?_
  refine lv_lload hx hb dX2_highOfProduct_58 (lv_at hl 2 rfl) ?_
  refine lv_lmul hx hb dX2_highOfProduct_60 ?_
  refine lv_lload hx hb dX2_highOfProduct_61 (lv_at hl 1 rfl) ?_
  refine lv_bipush (v := 32) hx hb dX2_highOfProduct_63 (by decide) ?_
  refine lv_lshr (v := (((a >>> ((32 : Int32).toInt64 &&& 63)) * (b &&& 4294967295)) + ((((a &&& 4294967295) * (b &&& 4294967295)).toUInt64 >>> ((32 : Int32).toInt64.toUInt64 &&& Int64.toUInt64 63)).toInt64)) >>> ((32 : Int32).toInt64 &&& 63)) hx hb dX2_highOfProduct_65 rfl ?_
  refine lv_ladd hx hb dX2_highOfProduct_66 ?_
  refine lv_lload hx hb dX2_highOfProduct_67 (lv_at hl 0 rfl) ?_
  refine lv_bipush (v := 32) hx hb dX2_highOfProduct_69 (by decide) ?_
  refine lv_lshr (v := (((a &&& 4294967295) * (b >>> ((32 : Int32).toInt64 &&& 63))) + ((((a >>> ((32 : Int32).toInt64 &&& 63)) * (b &&& 4294967295)) + ((((a &&& 4294967295) * (b &&& 4294967295)).toUInt64 >>> ((32 : Int32).toInt64.toUInt64 &&& Int64.toUInt64 63)).toInt64)) &&& 4294967295)) >>> ((32 : Int32).toInt64 &&& 63)) hx hb dX2_highOfProduct_71 rfl ?_
  refine lv_ladd hx hb dX2_highOfProduct_72 ?_
  exact hret rfl dX2_highOfProduct_73

set_option maxHeartbeats 4000000 in
set_option maxRecDepth 100000 in
theorem c_X2_twice (l : Launch) (D : va_G) (cZ cI cJ : ClassId) (o : Nat) (hi lo : Int64) : Cv l D cZ cI cJ yX2_twice cX2_twice 1 { frames := 0, cells := 0, slots := 0, locals := 0 } [.ref o] [(o, .inr (2, [.long hi, .long lo]))] (S := Int64 × Int64) (fun u => In (2 * wv hi lo) → wv u.1 u.2 = 2 * wv hi lo) (fun u => [(o, .inr (2, [.long u.1, .long u.2]))]) := by
  refine Cv.of (by decide) ?_
  intro p e s m args below meth c A Q hB hret hP hD hA
  obtain ⟨hx, hb, hr, hlocks, hml, hown, hnm, hTB, hK⟩ := hB
  have hown : s.vm.findClass RX2 = some m.cls := hown
  have hS : va_S A s.heap s.heap [] := va_S.rf
  have hl := lv_entry ([.ref o]) (n := 1) (Nat.le_of_ble_eq_true rfl)
  rw [lg_entry_eq]
  generalize (lg_sl ([.ref o]) ++ List.replicate (1 - (lg_sl ([.ref o])).length) Slot.unset).toArray = ls at hl ⊢
  have hl : lv_has ls 1 [(0, .ref o)] := hl
  refine lv_aload_n hx hb dX2_twice_0 rfl (lv_at hl 0 rfl) ?_
  refine lv_aload_n hx hb dX2_twice_1 rfl (lv_at hl 0 rfl) ?_
  refine va_get (D := D) (ci := 2) (v := .long hi) (C := RX2) (T := TX2) (N := 2) hx hb hTB tb_X2 hown hK.1 hP 0 rfl rfl 0 (by decide) (hTB _ tb_4_23) (fun _ h9 => h9) rfl dX2_twice_2 ?_
  refine lv_iconst (v := 1) hx hb dX2_twice_5 (by decide) ?_
  refine lv_lshl (v := hi <<< ((1 : Int32).toInt64 &&& 63)) hx hb dX2_twice_6 rfl ?_
  refine lv_aload_n hx hb dX2_twice_7 rfl (lv_at hl 0 rfl) ?_
  refine va_get (D := D) (ci := 2) (v := .long lo) (C := RX2) (T := TX2) (N := 2) hx hb hTB tb_X2 hown hK.1 hP 0 rfl rfl 1 (by decide) (hTB _ tb_4_21) (fun _ h9 => h9) rfl dX2_twice_8 ?_
  refine lv_bipush (v := 63) hx hb dX2_twice_11 (by decide) ?_
  refine lv_lushr (v := (lo.toUInt64 >>> ((63 : Int32).toInt64.toUInt64 &&& Int64.toUInt64 63)).toInt64) hx hb dX2_twice_13 rfl ?_
  refine lv_lor hx hb dX2_twice_14 ?_
  refine va_put (D := D) (ci := 2) (v := .long ((hi <<< ((1 : Int32).toInt64 &&& 63)) ||| ((lo.toUInt64 >>> ((63 : Int32).toInt64.toUInt64 &&& Int64.toUInt64 63)).toInt64))) (ty := .long) (C := RX2) (T := TX2) (N := 2) hx hb hTB tb_X2 tyX2 tyX2_ok nmX2 hown hK.1 hP hD hS 0 rfl rfl 0 (by decide) (hTB _ tb_4_23) (fun _ h9 => h9) rfl (by decide +kernel) rfl rfl (Nat.le_of_ble_eq_true rfl) dX2_twice_15 (fun H locs hP hD hS => ?_)
  have hP : va_P D vwCl [(o, .inr (2, [.long ((hi <<< ((1 : Int32).toInt64 &&& 63)) ||| ((lo.toUInt64 >>> ((63 : Int32).toInt64.toUInt64 &&& Int64.toUInt64 63)).toInt64)), .long lo]))] H := hP
  have hD : va_D A [(o, .inr (2, [.long ((hi <<< ((1 : Int32).toInt64 &&& 63)) ||| ((lo.toUInt64 >>> ((63 : Int32).toInt64.toUInt64 &&& Int64.toUInt64 63)).toInt64)), .long lo]))] := hD
  refine lv_aload_n hx hb dX2_twice_18 rfl (lv_at hl 0 rfl) ?_
  refine lv_aload_n hx hb dX2_twice_19 rfl (lv_at hl 0 rfl) ?_
  refine va_get (D := D) (ci := 2) (v := .long lo) (C := RX2) (T := TX2) (N := 2) hx hb hTB tb_X2 hown hK.1 hP 0 rfl rfl 1 (by decide) (hTB _ tb_4_21) (fun _ h9 => h9) rfl dX2_twice_20 ?_
  refine lv_iconst (v := 1) hx hb dX2_twice_23 (by decide) ?_
  refine lv_lshl (v := lo <<< ((1 : Int32).toInt64 &&& 63)) hx hb dX2_twice_24 rfl ?_
  refine va_put (D := D) (ci := 2) (v := .long (lo <<< ((1 : Int32).toInt64 &&& 63))) (ty := .long) (C := RX2) (T := TX2) (N := 2) hx hb hTB tb_X2 tyX2 tyX2_ok nmX2 hown hK.1 hP hD hS 0 rfl rfl 1 (by decide) (hTB _ tb_4_21) (fun _ h9 => h9) rfl (by decide +kernel) rfl rfl (Nat.le_of_ble_eq_true rfl) dX2_twice_25 (fun H locs hP hD hS => ?_)
  have hP : va_P D vwCl [(o, .inr (2, [.long ((hi <<< ((1 : Int32).toInt64 &&& 63)) ||| ((lo.toUInt64 >>> ((63 : Int32).toInt64.toUInt64 &&& Int64.toUInt64 63)).toInt64)), .long (lo <<< ((1 : Int32).toInt64 &&& 63))]))] H := hP
  have hD : va_D A [(o, .inr (2, [.long ((hi <<< ((1 : Int32).toInt64 &&& 63)) ||| ((lo.toUInt64 >>> ((63 : Int32).toInt64.toUInt64 &&& Int64.toUInt64 63)).toInt64)), .long (lo <<< ((1 : Int32).toInt64 &&& 63))]))] := hD
  exact hret hP hD hS ((hi <<< ((1 : Int32).toInt64 &&& 63)) ||| ((lo.toUInt64 >>> ((63 : Int32).toInt64.toUInt64 &&& Int64.toUInt64 63)).toInt64), lo <<< ((1 : Int32).toInt64 &&& 63)) (fun hz => wv_twice hz) [0] rfl (by decide) dX2_twice_28 (Nat.le_of_ble_eq_true rfl) (Nat.le_of_ble_eq_true rfl)

set_option maxHeartbeats 4000000 in
set_option maxRecDepth 100000 in
theorem c_X2_half (l : Launch) (D : va_G) (cZ cI cJ : ClassId) (o : Nat) (hi lo : Int64) : Cv l D cZ cI cJ yX2_half cX2_half 1 { frames := 0, cells := 0, slots := 0, locals := 0 } [.ref o] [(o, .inr (2, [.long hi, .long lo]))] (S := Int64 × Int64) (fun u => wv u.1 u.2 = wv hi lo / 2) (fun u => [(o, .inr (2, [.long u.1, .long u.2]))]) := by
  refine Cv.of (by decide) ?_
  intro p e s m args below meth c A Q hB hret hP hD hA
  obtain ⟨hx, hb, hr, hlocks, hml, hown, hnm, hTB, hK⟩ := hB
  have hown : s.vm.findClass RX2 = some m.cls := hown
  have hS : va_S A s.heap s.heap [] := va_S.rf
  have hl := lv_entry ([.ref o]) (n := 1) (Nat.le_of_ble_eq_true rfl)
  rw [lg_entry_eq]
  generalize (lg_sl ([.ref o]) ++ List.replicate (1 - (lg_sl ([.ref o])).length) Slot.unset).toArray = ls at hl ⊢
  have hl : lv_has ls 1 [(0, .ref o)] := hl
  refine lv_aload_n hx hb dX2_half_0 rfl (lv_at hl 0 rfl) ?_
  refine lv_aload_n hx hb dX2_half_1 rfl (lv_at hl 0 rfl) ?_
  refine va_get (D := D) (ci := 2) (v := .long lo) (C := RX2) (T := TX2) (N := 2) hx hb hTB tb_X2 hown hK.1 hP 0 rfl rfl 1 (by decide) (hTB _ tb_4_21) (fun _ h9 => h9) rfl dX2_half_2 ?_
  refine lv_iconst (v := 1) hx hb dX2_half_5 (by decide) ?_
  refine lv_lushr (v := (lo.toUInt64 >>> ((1 : Int32).toInt64.toUInt64 &&& Int64.toUInt64 63)).toInt64) hx hb dX2_half_6 rfl ?_
  refine lv_aload_n hx hb dX2_half_7 rfl (lv_at hl 0 rfl) ?_
  refine va_get (D := D) (ci := 2) (v := .long hi) (C := RX2) (T := TX2) (N := 2) hx hb hTB tb_X2 hown hK.1 hP 0 rfl rfl 0 (by decide) (hTB _ tb_4_23) (fun _ h9 => h9) rfl dX2_half_8 ?_
  refine lv_bipush (v := 63) hx hb dX2_half_11 (by decide) ?_
  refine lv_lshl (v := hi <<< ((63 : Int32).toInt64 &&& 63)) hx hb dX2_half_13 rfl ?_
  refine lv_lor hx hb dX2_half_14 ?_
  refine va_put (D := D) (ci := 2) (v := .long (((lo.toUInt64 >>> ((1 : Int32).toInt64.toUInt64 &&& Int64.toUInt64 63)).toInt64) ||| (hi <<< ((63 : Int32).toInt64 &&& 63)))) (ty := .long) (C := RX2) (T := TX2) (N := 2) hx hb hTB tb_X2 tyX2 tyX2_ok nmX2 hown hK.1 hP hD hS 0 rfl rfl 1 (by decide) (hTB _ tb_4_21) (fun _ h9 => h9) rfl (by decide +kernel) rfl rfl (Nat.le_of_ble_eq_true rfl) dX2_half_15 (fun H locs hP hD hS => ?_)
  have hP : va_P D vwCl [(o, .inr (2, [.long hi, .long (((lo.toUInt64 >>> ((1 : Int32).toInt64.toUInt64 &&& Int64.toUInt64 63)).toInt64) ||| (hi <<< ((63 : Int32).toInt64 &&& 63)))]))] H := hP
  have hD : va_D A [(o, .inr (2, [.long hi, .long (((lo.toUInt64 >>> ((1 : Int32).toInt64.toUInt64 &&& Int64.toUInt64 63)).toInt64) ||| (hi <<< ((63 : Int32).toInt64 &&& 63)))]))] := hD
  refine lv_aload_n hx hb dX2_half_18 rfl (lv_at hl 0 rfl) ?_
  refine lv_aload_n hx hb dX2_half_19 rfl (lv_at hl 0 rfl) ?_
  refine va_get (D := D) (ci := 2) (v := .long hi) (C := RX2) (T := TX2) (N := 2) hx hb hTB tb_X2 hown hK.1 hP 0 rfl rfl 0 (by decide) (hTB _ tb_4_23) (fun _ h9 => h9) rfl dX2_half_20 ?_
  refine lv_iconst (v := 1) hx hb dX2_half_23 (by decide) ?_
  refine lv_lshr (v := hi >>> ((1 : Int32).toInt64 &&& 63)) hx hb dX2_half_24 rfl ?_
  refine va_put (D := D) (ci := 2) (v := .long (hi >>> ((1 : Int32).toInt64 &&& 63))) (ty := .long) (C := RX2) (T := TX2) (N := 2) hx hb hTB tb_X2 tyX2 tyX2_ok nmX2 hown hK.1 hP hD hS 0 rfl rfl 0 (by decide) (hTB _ tb_4_23) (fun _ h9 => h9) rfl (by decide +kernel) rfl rfl (Nat.le_of_ble_eq_true rfl) dX2_half_25 (fun H locs hP hD hS => ?_)
  have hP : va_P D vwCl [(o, .inr (2, [.long (hi >>> ((1 : Int32).toInt64 &&& 63)), .long (((lo.toUInt64 >>> ((1 : Int32).toInt64.toUInt64 &&& Int64.toUInt64 63)).toInt64) ||| (hi <<< ((63 : Int32).toInt64 &&& 63)))]))] H := hP
  have hD : va_D A [(o, .inr (2, [.long (hi >>> ((1 : Int32).toInt64 &&& 63)), .long (((lo.toUInt64 >>> ((1 : Int32).toInt64.toUInt64 &&& Int64.toUInt64 63)).toInt64) ||| (hi <<< ((63 : Int32).toInt64 &&& 63)))]))] := hD
  exact hret hP hD hS (hi >>> ((1 : Int32).toInt64 &&& 63), ((lo.toUInt64 >>> ((1 : Int32).toInt64.toUInt64 &&& Int64.toUInt64 63)).toInt64) ||| (hi <<< ((63 : Int32).toInt64 &&& 63))) (wv_half hi lo) [0] rfl (by decide) dX2_half_28 (Nat.le_of_ble_eq_true rfl) (Nat.le_of_ble_eq_true rfl)

set_option maxHeartbeats 4000000 in
set_option maxRecDepth 100000 in
theorem c_X2_setLowestBit (l : Launch) (D : va_G) (cZ cI cJ : ClassId) (o : Nat) (hi lo : Int64) : Cv l D cZ cI cJ yX2_setLowestBit cX2_setLowestBit 1 { frames := 0, cells := 0, slots := 0, locals := 0 } [.ref o] [(o, .inr (2, [.long hi, .long lo]))] (S := Int64 × Int64) (fun u => wv u.1 u.2 = wv hi lo + (1 - wv hi lo % 2)) (fun u => [(o, .inr (2, [.long u.1, .long u.2]))]) := by
  refine Cv.of (by decide) ?_
  intro p e s m args below meth c A Q hB hret hP hD hA
  obtain ⟨hx, hb, hr, hlocks, hml, hown, hnm, hTB, hK⟩ := hB
  have hown : s.vm.findClass RX2 = some m.cls := hown
  have hS : va_S A s.heap s.heap [] := va_S.rf
  have hl := lv_entry ([.ref o]) (n := 1) (Nat.le_of_ble_eq_true rfl)
  rw [lg_entry_eq]
  generalize (lg_sl ([.ref o]) ++ List.replicate (1 - (lg_sl ([.ref o])).length) Slot.unset).toArray = ls at hl ⊢
  have hl : lv_has ls 1 [(0, .ref o)] := hl
  refine lv_aload_n hx hb dX2_setLowestBit_0 rfl (lv_at hl 0 rfl) ?_
  refine lv_aload_n hx hb dX2_setLowestBit_1 rfl (lv_at hl 0 rfl) ?_
  refine va_get (D := D) (ci := 2) (v := .long lo) (C := RX2) (T := TX2) (N := 2) hx hb hTB tb_X2 hown hK.1 hP 0 rfl rfl 1 (by decide) (hTB _ tb_4_21) (fun _ h9 => h9) rfl dX2_setLowestBit_2 ?_
  refine lv_lconst (v := 1) hx hb dX2_setLowestBit_5 (by decide) ?_
  refine lv_lor hx hb dX2_setLowestBit_6 ?_
  refine va_put (D := D) (ci := 2) (v := .long (lo ||| 1)) (ty := .long) (C := RX2) (T := TX2) (N := 2) hx hb hTB tb_X2 tyX2 tyX2_ok nmX2 hown hK.1 hP hD hS 0 rfl rfl 1 (by decide) (hTB _ tb_4_21) (fun _ h9 => h9) rfl (by decide +kernel) rfl rfl (Nat.le_of_ble_eq_true rfl) dX2_setLowestBit_7 (fun H locs hP hD hS => ?_)
  have hP : va_P D vwCl [(o, .inr (2, [.long hi, .long (lo ||| 1)]))] H := hP
  have hD : va_D A [(o, .inr (2, [.long hi, .long (lo ||| 1)]))] := hD
  exact hret hP hD hS (hi, lo ||| 1) (wv_bit hi lo) [0] rfl (by decide) dX2_setLowestBit_10 (Nat.le_of_ble_eq_true rfl) (Nat.le_of_ble_eq_true rfl)

set_option maxHeartbeats 4000000 in
set_option maxRecDepth 100000 in
theorem c_X2_lowOfAmount (l : Launch) (D : va_G) (cZ cI cJ : ClassId) (o : Nat) (hi lo : Int64) : Rl l D cZ cI cJ yX2_lowOfAmount cX2_lowOfAmount 1 (some .long) { frames := 0, cells := 0, slots := 0, locals := 0 } [.ref o] [(o, .inr (2, [.long hi, .long lo]))] (fun r => uN r = (wv hi lo).natAbs % 18446744073709551616) := by
  refine Rl.of (by decide) ?_
  intro p e s m args below meth c Q hB hret hP
  obtain ⟨hx, hb, hr, hlocks, hml, hown, hnm, hTB, hK⟩ := hB
  have hown : s.vm.findClass RX2 = some m.cls := hown
  have hl := lv_entry ([.ref o]) (n := 1) (Nat.le_of_ble_eq_true rfl)
  rw [lg_entry_eq]
  generalize (lg_sl ([.ref o]) ++ List.replicate (1 - (lg_sl ([.ref o])).length) Slot.unset).toArray = ls at hl ⊢
  have hl : lv_has ls 1 [(0, .ref o)] := hl
  refine lv_aload_n hx hb dX2_lowOfAmount_0 rfl (lv_at hl 0 rfl) ?_
  refine va_get (D := D) (ci := 2) (v := .long hi) (C := RX2) (T := TX2) (N := 2) hx hb hTB tb_X2 hown hK.1 hP 0 rfl rfl 0 (by decide) (hTB _ tb_4_23) (fun _ h9 => h9) rfl dX2_lowOfAmount_1 ?_
  refine lv_lconst (v := 0) hx hb dX2_lowOfAmount_4 (by decide) ?_
  refine W.lcmp hx hb dX2_lowOfAmount_5 ?_
  refine lv_if_ge (tgt := 17) hx hb dX2_lowOfAmount_6 (by decide) (fun c_6 => ?_) (fun c_6 => ?_)
  · have c_6 : (0 : Int) ≤ hi.toInt := lc_ge c_6
    refine lv_aload_n hx hb dX2_lowOfAmount_17 rfl (lv_at hl 0 rfl) ?_
    refine va_get (D := D) (ci := 2) (v := .long lo) (C := RX2) (T := TX2) (N := 2) hx hb hTB tb_X2 hown hK.1 hP 0 rfl rfl 1 (by decide) (hTB _ tb_4_21) (fun _ h9 => h9) rfl dX2_lowOfAmount_18 ?_
    exact hret (am_lo0 (fun q => by rw [i64_lt, t0] at q; omega)) dX2_lowOfAmount_21
  · have c_6 : hi.toInt < (0 : Int) := lc_nge c_6
    refine lv_aload_n hx hb dX2_lowOfAmount_9 rfl (lv_at hl 0 rfl) ?_
    refine va_get (D := D) (ci := 2) (v := .long lo) (C := RX2) (T := TX2) (N := 2) hx hb hTB tb_X2 hown hK.1 hP 0 rfl rfl 1 (by decide) (hTB _ tb_4_21) (fun _ h9 => h9) rfl dX2_lowOfAmount_10 ?_
    refine lv_lneg hx hb dX2_lowOfAmount_13 ?_
    refine lv_goto (tgt := 21) hx hb dX2_lowOfAmount_14 (by decide) ?_
    exact hret (am_lo1 (i64_lt.mpr c_6)) dX2_lowOfAmount_21

set_option maxHeartbeats 4000000 in
set_option maxRecDepth 100000 in
theorem c_X2_highOfAmount (l : Launch) (D : va_G) (cZ cI cJ : ClassId) (o : Nat) (hi lo : Int64) : Rl l D cZ cI cJ yX2_highOfAmount cX2_highOfAmount 1 (some .long) { frames := 0, cells := 0, slots := 0, locals := 0 } [.ref o] [(o, .inr (2, [.long hi, .long lo]))] (fun r => uN r = (wv hi lo).natAbs / 18446744073709551616) := by
  refine Rl.of (by decide) ?_
  intro p e s m args below meth c Q hB hret hP
  obtain ⟨hx, hb, hr, hlocks, hml, hown, hnm, hTB, hK⟩ := hB
  have hown : s.vm.findClass RX2 = some m.cls := hown
  have hl := lv_entry ([.ref o]) (n := 1) (Nat.le_of_ble_eq_true rfl)
  rw [lg_entry_eq]
  generalize (lg_sl ([.ref o]) ++ List.replicate (1 - (lg_sl ([.ref o])).length) Slot.unset).toArray = ls at hl ⊢
  have hl : lv_has ls 1 [(0, .ref o)] := hl
  refine lv_aload_n hx hb dX2_highOfAmount_0 rfl (lv_at hl 0 rfl) ?_
  refine va_get (D := D) (ci := 2) (v := .long hi) (C := RX2) (T := TX2) (N := 2) hx hb hTB tb_X2 hown hK.1 hP 0 rfl rfl 0 (by decide) (hTB _ tb_4_23) (fun _ h9 => h9) rfl dX2_highOfAmount_1 ?_
  refine lv_lconst (v := 0) hx hb dX2_highOfAmount_4 (by decide) ?_
  refine W.lcmp hx hb dX2_highOfAmount_5 ?_
  refine lv_if_lt (tgt := 14) hx hb dX2_highOfAmount_6 (by decide) (fun c_6 => ?_) (fun c_6 => ?_)
  · have c_6 : hi.toInt < (0 : Int) := lc_lt c_6
    refine lv_aload_n hx hb dX2_highOfAmount_14 rfl (lv_at hl 0 rfl) ?_
    refine va_get (D := D) (ci := 2) (v := .long lo) (C := RX2) (T := TX2) (N := 2) hx hb hTB tb_X2 hown hK.1 hP 0 rfl rfl 1 (by decide) (hTB _ tb_4_21) (fun _ h9 => h9) rfl dX2_highOfAmount_15 ?_
    refine lv_lconst (v := 0) hx hb dX2_highOfAmount_18 (by decide) ?_
    refine W.lcmp hx hb dX2_highOfAmount_19 ?_
    refine lv_if_ne (tgt := 31) hx hb dX2_highOfAmount_20 (by decide) (fun c_20 => ?_) (fun c_20 => ?_)
    · have c_20 : lo.toInt ≠ (0 : Int) := lc_ne c_20
      refine lv_aload_n hx hb dX2_highOfAmount_31 rfl (lv_at hl 0 rfl) ?_
      refine va_get (D := D) (ci := 2) (v := .long hi) (C := RX2) (T := TX2) (N := 2) hx hb hTB tb_X2 hown hK.1 hP 0 rfl rfl 0 (by decide) (hTB _ tb_4_23) (fun _ h9 => h9) rfl dX2_highOfAmount_32 ?_
      refine lv_ldc2 (v := (-1)) hx hb hown (hTB _ tb_4_22) dX2_highOfAmount_35 ?_
      refine lv_lxor hx hb dX2_highOfAmount_38 ?_
      exact hret (am_hi2 (fun q => by rw [i64_le, t0] at q; omega) (fun q => c_20 (i64_eq.mp q))) dX2_highOfAmount_39
    · have c_20 : lo.toInt = (0 : Int) := lc_eq c_20
      refine lv_aload_n hx hb dX2_highOfAmount_23 rfl (lv_at hl 0 rfl) ?_
      refine va_get (D := D) (ci := 2) (v := .long hi) (C := RX2) (T := TX2) (N := 2) hx hb hTB tb_X2 hown hK.1 hP 0 rfl rfl 0 (by decide) (hTB _ tb_4_23) (fun _ h9 => h9) rfl dX2_highOfAmount_24 ?_
      refine lv_lneg hx hb dX2_highOfAmount_27 ?_
      refine lv_goto (tgt := 39) hx hb dX2_highOfAmount_28 (by decide) ?_
      exact hret (am_hi1 (fun q => by rw [i64_le, t0] at q; omega) (i64_eq.mpr c_20)) dX2_highOfAmount_39
  · have c_6 : (0 : Int) ≤ hi.toInt := lc_nlt c_6
    refine lv_aload_n hx hb dX2_highOfAmount_9 rfl (lv_at hl 0 rfl) ?_
    refine va_get (D := D) (ci := 2) (v := .long hi) (C := RX2) (T := TX2) (N := 2) hx hb hTB tb_X2 hown hK.1 hP 0 rfl rfl 0 (by decide) (hTB _ tb_4_23) (fun _ h9 => h9) rfl dX2_highOfAmount_10 ?_
    exact hret (am_hi0 (i64_le.mpr c_6)) dX2_highOfAmount_13

set_option maxHeartbeats 4000000 in
set_option maxRecDepth 100000 in
theorem c_X2_copyAmount (l : Launch) (D : va_G) (cZ cI cJ : ClassId) (o x : Nat) (hi lo h2 l2 : Int64) : Cv l D cZ cI cJ yX2_copyAmount cX2_copyAmount 2 { frames := 1, cells := 0, slots := 0, locals := 21 } [.ref o, .ref x] [(o, .inr (2, [.long hi, .long lo])), (x, .inr (2, [.long h2, .long l2]))] (S := Int64 × Int64) (fun u => In (-(wv h2 l2)) → wv u.1 u.2 = (wv h2 l2).natAbs) (fun u => [(o, .inr (2, [.long u.1, .long u.2])), (x, .inr (2, [.long h2, .long l2]))]) := by
  refine Cv.of (by decide) ?_
  intro p e s m args below meth c A Q hB hret hP hD hA
  obtain ⟨hx, hb, hr, hlocks, hml, hown, hnm, hTB, hK⟩ := hB
  have hown : s.vm.findClass RX2 = some m.cls := hown
  have hS : va_S A s.heap s.heap [] := va_S.rf
  have hl := lv_entry ([.ref o, .ref x]) (n := 2) (Nat.le_of_ble_eq_true rfl)
  rw [lg_entry_eq]
  generalize (lg_sl ([.ref o, .ref x]) ++ List.replicate (2 - (lg_sl ([.ref o, .ref x])).length) Slot.unset).toArray = ls at hl ⊢
  have hl : lv_has ls 2 [(0, .ref o), (1, .ref x)] := hl
  refine lv_aload_n hx hb dX2_copyAmount_0 rfl (lv_at hl 0 rfl) ?_
  refine lv_aload_n hx hb dX2_copyAmount_1 rfl (lv_at hl 1 rfl) ?_
  refine fin_v (wr := []) (va_runV (As := [.ref x]) (rest := []) ⟨hx, hb, hml, hown, hTB⟩ (c_X2_copy l D cZ cI cJ o x hi lo h2 l2 _) (cw_V hTB tb_10_10 tb_2_9 tb_10_23 tb_10_8 tb_10_9 nd_X2_copy rfl rfl ⟨Nat.le_of_ble_eq_true rfl, Nat.le_of_ble_eq_true rfl⟩) (pre_V (q0 := 0) hK hP hD [0, 1] rfl rfl rfl rfl) rfl rfl hl.1 rfl (lv_room (Nat.le_of_ble_eq_true rfl)) dX2_copyAmount_2 ⟨Nat.le_of_ble_eq_true rfl, Nat.le_of_ble_eq_true rfl⟩) hP hD hS hA [0, 1] [] rfl rfl rfl (by decide) (fun u2 H locs hc2 hP hD hS => ?_)
  obtain ⟨w2h, w2l⟩ := u2
  have h2_ := hc2
  have hP : va_P D vwCl [(o, .inr (2, [.long w2h, .long w2l])), (x, .inr (2, [.long h2, .long l2]))] H := hP
  have hD : va_D A [(o, .inr (2, [.long w2h, .long w2l])), (x, .inr (2, [.long h2, .long l2]))] := hD
  refine lv_aload_n hx hb dX2_copyAmount_5 rfl (lv_at hl 0 rfl) ?_
  refine va_get (D := D) (ci := 2) (v := .long w2h) (C := RX2) (T := TX2) (N := 2) hx hb hTB tb_X2 hown hK.1 hP 0 rfl rfl 0 (by decide) (hTB _ tb_4_23) (fun _ h9 => h9) rfl dX2_copyAmount_6 ?_
  refine lv_lconst (v := 0) hx hb dX2_copyAmount_9 (by decide) ?_
  refine W.lcmp hx hb dX2_copyAmount_10 ?_
  refine lv_if_ge (tgt := 18) hx hb dX2_copyAmount_11 (by decide) (fun c_11 => ?_) (fun c_11 => ?_)
  · have c_11 : (0 : Int) ≤ w2h.toInt := lc_ge c_11
    exact hret hP hD hS (w2h, w2l) (fun hz => by have hc := congrArg (fun z : Int64 × Int64 => wv z.1 z.2) h2_; dsimp only at hc; rw [hc]; have := uN_lt l2; have hq := congrArg (fun z : Int64 × Int64 => z.1) h2_; dsimp only at hq; rw [hq] at c_11; unfold wv; omega) [0, 1] rfl (by decide) dX2_copyAmount_18 (Nat.le_of_ble_eq_true rfl) (Nat.le_of_ble_eq_true rfl)
  · have c_11 : w2h.toInt < (0 : Int) := lc_nge c_11
    refine lv_aload_n hx hb dX2_copyAmount_14 rfl (lv_at hl 0 rfl) ?_
    refine fin_v (wr := [(x, .inr (2, [.long h2, .long l2]))]) (va_runV (As := []) (rest := []) ⟨hx, hb, hml, hown, hTB⟩ (c_X2_negate l D cZ cI cJ o w2h w2l _) (cw_V hTB tb_9_14 tb_2_9 tb_11_0 tb_9_12 tb_9_13 nd_X2_negate rfl rfl ⟨Nat.le_of_ble_eq_true rfl, Nat.le_of_ble_eq_true rfl⟩) (pre_V (q0 := 0) hK hP hD [0] rfl rfl rfl rfl) rfl rfl hl.1 rfl (lv_room (Nat.le_of_ble_eq_true rfl)) dX2_copyAmount_15 ⟨Nat.le_of_ble_eq_true rfl, Nat.le_of_ble_eq_true rfl⟩) hP hD hS hA [0] [1] rfl rfl rfl (by decide) (fun u15 H locs hc15 hP hD hS => ?_)
    obtain ⟨w15h, w15l⟩ := u15
    have hP : va_P D vwCl [(x, .inr (2, [.long h2, .long l2])), (o, .inr (2, [.long w15h, .long w15l]))] H := hP
    have hD : va_D A [(x, .inr (2, [.long h2, .long l2])), (o, .inr (2, [.long w15h, .long w15l]))] := hD
    exact hret hP hD hS (w15h, w15l) (fun hz => by have hc := congrArg (fun z : Int64 × Int64 => wv z.1 z.2) h2_; dsimp only at hc; rw [hc15 (by rw [hc]; exact hz), hc]; have := uN_lt l2; have hq := congrArg (fun z : Int64 × Int64 => z.1) h2_; dsimp only at hq; rw [hq] at c_11; unfold wv; omega) [1, 0] rfl (by decide) dX2_copyAmount_18 (Nat.le_of_ble_eq_true rfl) (Nat.le_of_ble_eq_true rfl)

set_option maxHeartbeats 4000000 in
set_option maxRecDepth 100000 in
theorem c_X2_addProduct (l : Launch) (D : va_G) (cZ cI cJ : ClassId) (o : Nat) (hi lo : Int64) (a b : Int64) : Cv l D cZ cI cJ yX2_addProduct cX2_addProduct 5 { frames := 2, cells := 0, slots := 0, locals := 47 } [.ref o, .long a, .long b] [(o, .inr (2, [.long hi, .long lo]))] (S := Int64 × Int64) (fun u => In (wv hi lo + a.toInt * b.toInt) → wv u.1 u.2 = wv hi lo + a.toInt * b.toInt) (fun u => [(o, .inr (2, [.long u.1, .long u.2]))]) := by
  refine Cv.of (by decide) ?_
  intro p e s m args below meth c A Q hB hret hP hD hA
  obtain ⟨hx, hb, hr, hlocks, hml, hown, hnm, hTB, hK⟩ := hB
  have hown : s.vm.findClass RX2 = some m.cls := hown
  have hS : va_S A s.heap s.heap [] := va_S.rf
  have hl := lv_entry ([.ref o, .long a, .long b]) (n := 5) (Nat.le_of_ble_eq_true rfl)
  rw [lg_entry_eq]
  generalize (lg_sl ([.ref o, .long a, .long b]) ++ List.replicate (5 - (lg_sl ([.ref o, .long a, .long b])).length) Slot.unset).toArray = ls at hl ⊢
  have hl : lv_has ls 5 [(0, .ref o), (1, .long a), (3, .long b)] := hl
  refine lv_aload_n hx hb dX2_addProduct_0 rfl (lv_at hl 0 rfl) ?_
  refine lv_lload_n hx hb dX2_addProduct_1 rfl (lv_at hl 1 rfl) ?_
  refine lv_lload_n hx hb dX2_addProduct_2 rfl (lv_at hl 2 rfl) ?_
  refine vp_callSl (va_runS (As := [.long a, .long b]) (rest := [.ref o]) ⟨hx, hb, hml, hown, hTB⟩ (c_X2_highOfProduct l D cZ cI cJ a b) (cw_S hTB tb_5_10 tb_2_9 tb_5_8 tb_5_9 nd_X2_highOfProduct rfl rfl ⟨Nat.le_of_ble_eq_true rfl, Nat.le_of_ble_eq_true rfl⟩) (prr_S hK hP [] rfl) rfl rfl hl.1 rfl (lv_room (Nat.le_of_ble_eq_true rfl)) dX2_addProduct_3 ⟨Nat.le_of_ble_eq_true rfl, Nat.le_of_ble_eq_true rfl⟩).run (fun r3 hc3 => ?_)
  subst hc3
  refine lv_lload_n hx hb dX2_addProduct_6 rfl (lv_at hl 1 rfl) ?_
  refine lv_lload_n hx hb dX2_addProduct_7 rfl (lv_at hl 2 rfl) ?_
  refine lv_lmul hx hb dX2_addProduct_8 ?_
  refine fin_v (wr := []) (va_runV (As := [.long (hop a b), .long (a * b)]) (rest := []) ⟨hx, hb, hml, hown, hTB⟩ (c_X2_addParts l D cZ cI cJ o hi lo (hop a b) (a * b) _) (cw_V hTB tb_5_15 tb_2_9 tb_5_12 tb_5_13 tb_5_14 nd_X2_addParts rfl rfl ⟨Nat.le_of_ble_eq_true rfl, Nat.le_of_ble_eq_true rfl⟩) (pre_V (q0 := 0) hK hP hD [0] rfl rfl rfl rfl) rfl rfl hl.1 rfl (lv_room (Nat.le_of_ble_eq_true rfl)) dX2_addProduct_9 ⟨Nat.le_of_ble_eq_true rfl, Nat.le_of_ble_eq_true rfl⟩) hP hD hS hA [0] [] rfl rfl rfl (by decide) (fun u9 H locs hc9 hP hD hS => ?_)
  obtain ⟨w9h, w9l⟩ := u9
  have hP : va_P D vwCl [(o, .inr (2, [.long w9h, .long w9l]))] H := hP
  have hD : va_D A [(o, .inr (2, [.long w9h, .long w9l]))] := hD
  exact hret hP hD hS (w9h, w9l) (by rw [wv_hop] at hc9; exact hc9) [0] rfl (by decide) dX2_addProduct_12 (Nat.le_of_ble_eq_true rfl) (Nat.le_of_ble_eq_true rfl)

set_option maxHeartbeats 4000000 in
set_option maxRecDepth 100000 in
theorem c_X2_addSpan (l : Launch) (D : va_G) (cZ cI cJ : ClassId) (o : Nat) (hi lo : Int64) (fx fy sx sy : Int64) : Cv l D cZ cI cJ yX2_addSpan cX2_addSpan 9 { frames := 3, cells := 0, slots := 0, locals := 71 } [.ref o, .long fx, .long fy, .long sx, .long sy] [(o, .inr (2, [.long hi, .long lo]))] (S := Int64 × Int64) (fun u => fy.toInt ≠ -9223372036854775808 → In (wv hi lo + fx.toInt * sy.toInt) → In (wv hi lo + fx.toInt * sy.toInt - fy.toInt * sx.toInt) → wv u.1 u.2 = wv hi lo + fx.toInt * sy.toInt - fy.toInt * sx.toInt) (fun u => [(o, .inr (2, [.long u.1, .long u.2]))]) := by
  refine Cv.of (by decide) ?_
  intro p e s m args below meth c A Q hB hret hP hD hA
  obtain ⟨hx, hb, hr, hlocks, hml, hown, hnm, hTB, hK⟩ := hB
  have hown : s.vm.findClass RX2 = some m.cls := hown
  have hS : va_S A s.heap s.heap [] := va_S.rf
  have hl := lv_entry ([.ref o, .long fx, .long fy, .long sx, .long sy]) (n := 9) (Nat.le_of_ble_eq_true rfl)
  rw [lg_entry_eq]
  generalize (lg_sl ([.ref o, .long fx, .long fy, .long sx, .long sy]) ++ List.replicate (9 - (lg_sl ([.ref o, .long fx, .long fy, .long sx, .long sy])).length) Slot.unset).toArray = ls at hl ⊢
  have hl : lv_has ls 9 [(0, .ref o), (1, .long fx), (3, .long fy), (5, .long sx), (7, .long sy)] := hl
  refine lv_aload_n hx hb dX2_addSpan_0 rfl (lv_at hl 0 rfl) ?_
  refine lv_lload_n hx hb dX2_addSpan_1 rfl (lv_at hl 1 rfl) ?_
  refine lv_lload hx hb dX2_addSpan_2 (lv_at hl 4 rfl) ?_
  refine fin_v (wr := []) (va_runV (As := [.long fx, .long sy]) (rest := []) ⟨hx, hb, hml, hown, hTB⟩ (c_X2_addProduct l D cZ cI cJ o hi lo fx sy _) (cw_V hTB tb_5_7 tb_2_9 tb_5_4 tb_5_5 tb_5_6 nd_X2_addProduct rfl rfl ⟨Nat.le_of_ble_eq_true rfl, Nat.le_of_ble_eq_true rfl⟩) (pre_V (q0 := 0) hK hP hD [0] rfl rfl rfl rfl) rfl rfl hl.1 rfl (lv_room (Nat.le_of_ble_eq_true rfl)) dX2_addSpan_4 ⟨Nat.le_of_ble_eq_true rfl, Nat.le_of_ble_eq_true rfl⟩) hP hD hS hA [0] [] rfl rfl rfl (by decide) (fun u4 H locs hc4 hP hD hS => ?_)
  obtain ⟨w4h, w4l⟩ := u4
  have hP : va_P D vwCl [(o, .inr (2, [.long w4h, .long w4l]))] H := hP
  have hD : va_D A [(o, .inr (2, [.long w4h, .long w4l]))] := hD
  refine lv_aload_n hx hb dX2_addSpan_7 rfl (lv_at hl 0 rfl) ?_
  refine lv_lload_n hx hb dX2_addSpan_8 rfl (lv_at hl 2 rfl) ?_
  refine lv_lneg hx hb dX2_addSpan_9 ?_
  refine lv_lload hx hb dX2_addSpan_10 (lv_at hl 3 rfl) ?_
  refine fin_v (wr := []) (va_runV (As := [.long (-fy), .long sx]) (rest := []) ⟨hx, hb, hml, hown, hTB⟩ (c_X2_addProduct l D cZ cI cJ o w4h w4l (-fy) sx _) (cw_V hTB tb_5_7 tb_2_9 tb_5_4 tb_5_5 tb_5_6 nd_X2_addProduct rfl rfl ⟨Nat.le_of_ble_eq_true rfl, Nat.le_of_ble_eq_true rfl⟩) (pre_V (q0 := 0) hK hP hD [0] rfl rfl rfl rfl) rfl rfl hl.1 rfl (lv_room (Nat.le_of_ble_eq_true rfl)) dX2_addSpan_12 ⟨Nat.le_of_ble_eq_true rfl, Nat.le_of_ble_eq_true rfl⟩) hP hD hS hA [0] [] rfl rfl rfl (by decide) (fun u12 H locs hc12 hP hD hS => ?_)
  obtain ⟨w12h, w12l⟩ := u12
  have hP : va_P D vwCl [(o, .inr (2, [.long w12h, .long w12l]))] H := hP
  have hD : va_D A [(o, .inr (2, [.long w12h, .long w12l]))] := hD
  exact hret hP hD hS (w12h, w12l) (fun q1 q2 q3 => by have e1 := hc4 q2; dsimp only at e1; have r := sI_rng fy; rw [neg_rng (by omega), Int.neg_mul, e1, ← Int.sub_eq_add_neg] at hc12; exact hc12 q3) [0] rfl (by decide) dX2_addSpan_15 (Nat.le_of_ble_eq_true rfl) (Nat.le_of_ble_eq_true rfl)

set_option maxHeartbeats 4000000 in
set_option maxRecDepth 100000 in
theorem c_X2_putSpan (l : Launch) (D : va_G) (cZ cI cJ : ClassId) (o : Nat) (hi lo : Int64) (fx fy sx sy : Int64) : Cv l D cZ cI cJ yX2_putSpan cX2_putSpan 9 { frames := 4, cells := 0, slots := 0, locals := 99 } [.ref o, .long fx, .long fy, .long sx, .long sy] [(o, .inr (2, [.long hi, .long lo]))] (S := Int64 × Int64) (fun u => fy.toInt ≠ -9223372036854775808 → In (fx.toInt * sy.toInt) → In (fx.toInt * sy.toInt - fy.toInt * sx.toInt) → wv u.1 u.2 = fx.toInt * sy.toInt - fy.toInt * sx.toInt) (fun u => [(o, .inr (2, [.long u.1, .long u.2]))]) := by
  refine Cv.of (by decide) ?_
  intro p e s m args below meth c A Q hB hret hP hD hA
  obtain ⟨hx, hb, hr, hlocks, hml, hown, hnm, hTB, hK⟩ := hB
  have hown : s.vm.findClass RX2 = some m.cls := hown
  have hS : va_S A s.heap s.heap [] := va_S.rf
  have hl := lv_entry ([.ref o, .long fx, .long fy, .long sx, .long sy]) (n := 9) (Nat.le_of_ble_eq_true rfl)
  rw [lg_entry_eq]
  generalize (lg_sl ([.ref o, .long fx, .long fy, .long sx, .long sy]) ++ List.replicate (9 - (lg_sl ([.ref o, .long fx, .long fy, .long sx, .long sy])).length) Slot.unset).toArray = ls at hl ⊢
  have hl : lv_has ls 9 [(0, .ref o), (1, .long fx), (3, .long fy), (5, .long sx), (7, .long sy)] := hl
  refine lv_aload_n hx hb dX2_putSpan_0 rfl (lv_at hl 0 rfl) ?_
  refine lv_lconst (v := 0) hx hb dX2_putSpan_1 (by decide) ?_
  refine fin_v (wr := []) (va_runV (As := [.long 0]) (rest := []) ⟨hx, hb, hml, hown, hTB⟩ (c_X2_put l D cZ cI cJ o hi lo 0 _) (cw_V hTB tb_4_20 tb_2_9 tb_4_17 tb_4_18 tb_4_19 nd_X2_put rfl rfl ⟨Nat.le_of_ble_eq_true rfl, Nat.le_of_ble_eq_true rfl⟩) (pre_V (q0 := 0) hK hP hD [0] rfl rfl rfl rfl) rfl rfl hl.1 rfl (lv_room (Nat.le_of_ble_eq_true rfl)) dX2_putSpan_2 ⟨Nat.le_of_ble_eq_true rfl, Nat.le_of_ble_eq_true rfl⟩) hP hD hS hA [0] [] rfl rfl rfl (by decide) (fun u2 H locs hc2 hP hD hS => ?_)
  obtain ⟨w2h, w2l⟩ := u2
  have hP : va_P D vwCl [(o, .inr (2, [.long w2h, .long w2l]))] H := hP
  have hD : va_D A [(o, .inr (2, [.long w2h, .long w2l]))] := hD
  refine lv_aload_n hx hb dX2_putSpan_5 rfl (lv_at hl 0 rfl) ?_
  refine lv_lload_n hx hb dX2_putSpan_6 rfl (lv_at hl 1 rfl) ?_
  refine lv_lload_n hx hb dX2_putSpan_7 rfl (lv_at hl 2 rfl) ?_
  refine lv_lload hx hb dX2_putSpan_8 (lv_at hl 3 rfl) ?_
  refine lv_lload hx hb dX2_putSpan_10 (lv_at hl 4 rfl) ?_
  refine fin_v (wr := []) (va_runV (As := [.long fx, .long fy, .long sx, .long sy]) (rest := []) ⟨hx, hb, hml, hown, hTB⟩ (c_X2_addSpan l D cZ cI cJ o w2h w2l fx fy sx sy _) (cw_V hTB tb_5_3 tb_2_9 tb_5_0 tb_5_1 tb_5_2 nd_X2_addSpan rfl rfl ⟨Nat.le_of_ble_eq_true rfl, Nat.le_of_ble_eq_true rfl⟩) (pre_V (q0 := 0) hK hP hD [0] rfl rfl rfl rfl) rfl rfl hl.1 rfl (lv_room (Nat.le_of_ble_eq_true rfl)) dX2_putSpan_12 ⟨Nat.le_of_ble_eq_true rfl, Nat.le_of_ble_eq_true rfl⟩) hP hD hS hA [0] [] rfl rfl rfl (by decide) (fun u12 H locs hc12 hP hD hS => ?_)
  obtain ⟨w12h, w12l⟩ := u12
  have hP : va_P D vwCl [(o, .inr (2, [.long w12h, .long w12l]))] H := hP
  have hD : va_D A [(o, .inr (2, [.long w12h, .long w12l]))] := hD
  exact hret hP hD hS (w12h, w12l) (fun q1 q2 q3 => by dsimp only at hc2; rw [hc2, t0, Int.zero_add] at hc12; exact hc12 q1 q2 q3) [0] rfl (by decide) dX2_putSpan_15 (Nat.le_of_ble_eq_true rfl) (Nat.le_of_ble_eq_true rfl)

set_option maxHeartbeats 4000000 in
set_option maxRecDepth 100000 in
theorem c_X2_addScaled (l : Launch) (D : va_G) (cZ cI cJ : ClassId) (o x : Nat) (hi lo h2 l2 f : Int64) : Cv l D cZ cI cJ yX2_addScaled cX2_addScaled 8 { frames := 2, cells := 0, slots := 0, locals := 47 } [.ref o, .ref x, .long f] [(o, .inr (2, [.long hi, .long lo])), (x, .inr (2, [.long h2, .long l2]))] (S := Int64 × Int64) (fun u => In (wv h2 l2 * f.toInt) → In (wv hi lo + wv h2 l2 * f.toInt) → wv u.1 u.2 = wv hi lo + wv h2 l2 * f.toInt) (fun u => [(o, .inr (2, [.long u.1, .long u.2])), (x, .inr (2, [.long h2, .long l2]))]) := by
  refine Cv.of (by decide) ?_
  intro p e s m args below meth c A Q hB hret hP hD hA
  obtain ⟨hx, hb, hr, hlocks, hml, hown, hnm, hTB, hK⟩ := hB
  have hown : s.vm.findClass RX2 = some m.cls := hown
  have hS : va_S A s.heap s.heap [] := va_S.rf
  have hl := lv_entry ([.ref o, .ref x, .long f]) (n := 8) (Nat.le_of_ble_eq_true rfl)
  rw [lg_entry_eq]
  generalize (lg_sl ([.ref o, .ref x, .long f]) ++ List.replicate (8 - (lg_sl ([.ref o, .ref x, .long f])).length) Slot.unset).toArray = ls at hl ⊢
  have hl : lv_has ls 8 [(0, .ref o), (1, .ref x), (2, .long f)] := hl
  refine lv_aload_n hx hb dX2_addScaled_0 rfl (lv_at hl 1 rfl) ?_
  refine va_get (D := D) (ci := 2) (v := .long l2) (C := RX2) (T := TX2) (N := 2) hx hb hTB tb_X2 hown hK.1 hP 1 rfl rfl 1 (by decide) (hTB _ tb_4_21) (fun _ h9 => h9) rfl dX2_addScaled_1 ?_
  refine lv_lconst (v := 0) hx hb dX2_addScaled_4 (by decide) ?_
  refine W.lcmp hx hb dX2_addScaled_5 ?_
  refine lv_if_ge (tgt := 13) hx hb dX2_addScaled_6 (by decide) (fun c_6 => ?_) (fun c_6 => ?_)
  · have c_6 : (0 : Int) ≤ l2.toInt := lc_ge c_6
    refine lv_lconst (v := 0) hx hb dX2_addScaled_13 (by decide) ?_
    refine lv_lstore (lv' := [(4, .long 0), (0, .ref o), (1, .ref x), (2, .long f)]) hx hb dX2_addScaled_14 hl (by decide) rfl (fun ls hl => ?_)
    refine lv_aload_n hx hb dX2_addScaled_16 rfl (lv_at hl 2 rfl) ?_
    refine va_get (D := D) (ci := 2) (v := .long h2) (C := RX2) (T := TX2) (N := 2) hx hb hTB tb_X2 hown hK.1 hP 1 rfl rfl 0 (by decide) (hTB _ tb_4_23) (fun _ h9 => h9) rfl dX2_addScaled_17 ?_
    refine lv_lload_n hx hb dX2_addScaled_20 rfl (lv_at hl 3 rfl) ?_
    refine lv_lmul hx hb dX2_addScaled_21 ?_
    refine lv_aload_n hx hb dX2_addScaled_22 rfl (lv_at hl 2 rfl) ?_
    refine va_get (D := D) (ci := 2) (v := .long l2) (C := RX2) (T := TX2) (N := 2) hx hb hTB tb_X2 hown hK.1 hP 1 rfl rfl 1 (by decide) (hTB _ tb_4_21) (fun _ h9 => h9) rfl dX2_addScaled_23 ?_
    refine lv_lload_n hx hb dX2_addScaled_26 rfl (lv_at hl 3 rfl) ?_
    refine vp_callSl (va_runS (As := [.long l2, .long f]) (rest := [.long (h2 * f)]) ⟨hx, hb, hml, hown, hTB⟩ (c_X2_highOfProduct l D cZ cI cJ l2 f) (cw_S hTB tb_5_10 tb_2_9 tb_5_8 tb_5_9 nd_X2_highOfProduct rfl rfl ⟨Nat.le_of_ble_eq_true rfl, Nat.le_of_ble_eq_true rfl⟩) (prr_S hK hP [] rfl) rfl rfl hl.1 rfl (lv_room (Nat.le_of_ble_eq_true rfl)) dX2_addScaled_27 ⟨Nat.le_of_ble_eq_true rfl, Nat.le_of_ble_eq_true rfl⟩).run (fun r27 hc27 => ?_)
    subst hc27
    refine lv_ladd hx hb dX2_addScaled_30 ?_
    refine lv_lload hx hb dX2_addScaled_31 (lv_at hl 0 rfl) ?_
    refine lv_ladd hx hb dX2_addScaled_33 ?_
    refine lv_lstore (lv' := [(6, .long (((h2 * f) + (hop l2 f)) + 0)), (4, .long 0), (0, .ref o), (1, .ref x), (2, .long f)]) hx hb dX2_addScaled_34 hl (by decide) rfl (fun ls hl => ?_)
    refine lv_aload_n hx hb dX2_addScaled_36 rfl (lv_at hl 2 rfl) ?_
    refine lv_lload hx hb dX2_addScaled_37 (lv_at hl 0 rfl) ?_
    refine lv_aload_n hx hb dX2_addScaled_39 rfl (lv_at hl 3 rfl) ?_
    refine va_get (D := D) (ci := 2) (v := .long l2) (C := RX2) (T := TX2) (N := 2) hx hb hTB tb_X2 hown hK.1 hP 1 rfl rfl 1 (by decide) (hTB _ tb_4_21) (fun _ h9 => h9) rfl dX2_addScaled_40 ?_
    refine lv_lload_n hx hb dX2_addScaled_43 rfl (lv_at hl 4 rfl) ?_
    refine lv_lmul hx hb dX2_addScaled_44 ?_
    refine fin_v (wr := [(x, .inr (2, [.long h2, .long l2]))]) (va_runV (As := [.long (((h2 * f) + (hop l2 f)) + 0), .long (l2 * f)]) (rest := []) ⟨hx, hb, hml, hown, hTB⟩ (c_X2_addParts l D cZ cI cJ o hi lo (((h2 * f) + (hop l2 f)) + 0) (l2 * f) _) (cw_V hTB tb_5_15 tb_2_9 tb_5_12 tb_5_13 tb_5_14 nd_X2_addParts rfl rfl ⟨Nat.le_of_ble_eq_true rfl, Nat.le_of_ble_eq_true rfl⟩) (pre_V (q0 := 0) hK hP hD [0] rfl rfl rfl rfl) rfl rfl hl.1 rfl (lv_room (Nat.le_of_ble_eq_true rfl)) dX2_addScaled_45 ⟨Nat.le_of_ble_eq_true rfl, Nat.le_of_ble_eq_true rfl⟩) hP hD hS hA [0] [1] rfl rfl rfl (by decide) (fun u45 H locs hc45 hP hD hS => ?_)
    obtain ⟨w45h, w45l⟩ := u45
    have hP : va_P D vwCl [(x, .inr (2, [.long h2, .long l2])), (o, .inr (2, [.long w45h, .long w45l]))] H := hP
    have hD : va_D A [(x, .inr (2, [.long h2, .long l2])), (o, .inr (2, [.long w45h, .long w45l]))] := hD
    exact hret hP hD hS (w45h, w45l) (fun q1 q2 => by rw [wv_scaled q1 (Or.inr ⟨fun q => by rw [i64_lt, t0] at q; omega, rfl⟩)] at hc45; exact hc45 q2) [1, 0] rfl (by decide) dX2_addScaled_48 (Nat.le_of_ble_eq_true rfl) (Nat.le_of_ble_eq_true rfl)
  · have c_6 : l2.toInt < (0 : Int) := lc_nge c_6
    refine lv_lload_n hx hb dX2_addScaled_9 rfl (lv_at hl 2 rfl) ?_
    refine lv_goto (tgt := 14) hx hb dX2_addScaled_10 (by decide) ?_
    refine lv_lstore (lv' := [(4, .long f), (0, .ref o), (1, .ref x), (2, .long f)]) hx hb dX2_addScaled_14 hl (by decide) rfl (fun ls hl => ?_)
    refine lv_aload_n hx hb dX2_addScaled_16 rfl (lv_at hl 2 rfl) ?_
    refine va_get (D := D) (ci := 2) (v := .long h2) (C := RX2) (T := TX2) (N := 2) hx hb hTB tb_X2 hown hK.1 hP 1 rfl rfl 0 (by decide) (hTB _ tb_4_23) (fun _ h9 => h9) rfl dX2_addScaled_17 ?_
    refine lv_lload_n hx hb dX2_addScaled_20 rfl (lv_at hl 3 rfl) ?_
    refine lv_lmul hx hb dX2_addScaled_21 ?_
    refine lv_aload_n hx hb dX2_addScaled_22 rfl (lv_at hl 2 rfl) ?_
    refine va_get (D := D) (ci := 2) (v := .long l2) (C := RX2) (T := TX2) (N := 2) hx hb hTB tb_X2 hown hK.1 hP 1 rfl rfl 1 (by decide) (hTB _ tb_4_21) (fun _ h9 => h9) rfl dX2_addScaled_23 ?_
    refine lv_lload_n hx hb dX2_addScaled_26 rfl (lv_at hl 3 rfl) ?_
    refine vp_callSl (va_runS (As := [.long l2, .long f]) (rest := [.long (h2 * f)]) ⟨hx, hb, hml, hown, hTB⟩ (c_X2_highOfProduct l D cZ cI cJ l2 f) (cw_S hTB tb_5_10 tb_2_9 tb_5_8 tb_5_9 nd_X2_highOfProduct rfl rfl ⟨Nat.le_of_ble_eq_true rfl, Nat.le_of_ble_eq_true rfl⟩) (prr_S hK hP [] rfl) rfl rfl hl.1 rfl (lv_room (Nat.le_of_ble_eq_true rfl)) dX2_addScaled_27 ⟨Nat.le_of_ble_eq_true rfl, Nat.le_of_ble_eq_true rfl⟩).run (fun r27 hc27 => ?_)
    subst hc27
    refine lv_ladd hx hb dX2_addScaled_30 ?_
    refine lv_lload hx hb dX2_addScaled_31 (lv_at hl 0 rfl) ?_
    refine lv_ladd hx hb dX2_addScaled_33 ?_
    refine lv_lstore (lv' := [(6, .long (((h2 * f) + (hop l2 f)) + f)), (4, .long f), (0, .ref o), (1, .ref x), (2, .long f)]) hx hb dX2_addScaled_34 hl (by decide) rfl (fun ls hl => ?_)
    refine lv_aload_n hx hb dX2_addScaled_36 rfl (lv_at hl 2 rfl) ?_
    refine lv_lload hx hb dX2_addScaled_37 (lv_at hl 0 rfl) ?_
    refine lv_aload_n hx hb dX2_addScaled_39 rfl (lv_at hl 3 rfl) ?_
    refine va_get (D := D) (ci := 2) (v := .long l2) (C := RX2) (T := TX2) (N := 2) hx hb hTB tb_X2 hown hK.1 hP 1 rfl rfl 1 (by decide) (hTB _ tb_4_21) (fun _ h9 => h9) rfl dX2_addScaled_40 ?_
    refine lv_lload_n hx hb dX2_addScaled_43 rfl (lv_at hl 4 rfl) ?_
    refine lv_lmul hx hb dX2_addScaled_44 ?_
    refine fin_v (wr := [(x, .inr (2, [.long h2, .long l2]))]) (va_runV (As := [.long (((h2 * f) + (hop l2 f)) + f), .long (l2 * f)]) (rest := []) ⟨hx, hb, hml, hown, hTB⟩ (c_X2_addParts l D cZ cI cJ o hi lo (((h2 * f) + (hop l2 f)) + f) (l2 * f) _) (cw_V hTB tb_5_15 tb_2_9 tb_5_12 tb_5_13 tb_5_14 nd_X2_addParts rfl rfl ⟨Nat.le_of_ble_eq_true rfl, Nat.le_of_ble_eq_true rfl⟩) (pre_V (q0 := 0) hK hP hD [0] rfl rfl rfl rfl) rfl rfl hl.1 rfl (lv_room (Nat.le_of_ble_eq_true rfl)) dX2_addScaled_45 ⟨Nat.le_of_ble_eq_true rfl, Nat.le_of_ble_eq_true rfl⟩) hP hD hS hA [0] [1] rfl rfl rfl (by decide) (fun u45 H locs hc45 hP hD hS => ?_)
    obtain ⟨w45h, w45l⟩ := u45
    have hP : va_P D vwCl [(x, .inr (2, [.long h2, .long l2])), (o, .inr (2, [.long w45h, .long w45l]))] H := hP
    have hD : va_D A [(x, .inr (2, [.long h2, .long l2])), (o, .inr (2, [.long w45h, .long w45l]))] := hD
    exact hret hP hD hS (w45h, w45l) (fun q1 q2 => by rw [wv_scaled q1 (Or.inl ⟨i64_lt.mpr c_6, rfl⟩)] at hc45; exact hc45 q2) [1, 0] rfl (by decide) dX2_addScaled_48 (Nat.le_of_ble_eq_true rfl) (Nat.le_of_ble_eq_true rfl)

set_option maxHeartbeats 4000000 in
set_option maxRecDepth 100000 in
theorem c_X2_limbs (l : Launch) (D : va_G) (cZ cI cJ : ClassId) (o : Nat) (hi lo : Int64) : Ri l D cZ cI cJ yX2_limbs cX2_limbs 3 (some .int) { frames := 1, cells := 0, slots := 0, locals := 20 } [.ref o] [(o, .inr (2, [.long hi, .long lo]))] (fun r => r = nI (nl (wv hi lo).natAbs)) := by
  refine Ri.of (by decide) ?_
  intro p e s m args below meth c Q hB hret hP
  obtain ⟨hx, hb, hr, hlocks, hml, hown, hnm, hTB, hK⟩ := hB
  have hown : s.vm.findClass RX2 = some m.cls := hown
  have hl := lv_entry ([.ref o]) (n := 3) (Nat.le_of_ble_eq_true rfl)
  rw [lg_entry_eq]
  generalize (lg_sl ([.ref o]) ++ List.replicate (3 - (lg_sl ([.ref o])).length) Slot.unset).toArray = ls at hl ⊢
  have hl : lv_has ls 3 [(0, .ref o)] := hl
  refine lv_aload_n hx hb dX2_limbs_0 rfl (lv_at hl 0 rfl) ?_
  refine vp_callSl (va_runV (As := []) (rest := []) ⟨hx, hb, hml, hown, hTB⟩ (c_X2_highOfAmount l D cZ cI cJ o hi lo) (cw_V hTB tb_16_21 tb_2_9 tb_16_18 tb_16_19 tb_16_20 nd_X2_highOfAmount rfl rfl ⟨Nat.le_of_ble_eq_true rfl, Nat.le_of_ble_eq_true rfl⟩) (prr_V (q0 := 0) hK hP [0] rfl rfl rfl) rfl rfl hl.1 rfl (lv_room (Nat.le_of_ble_eq_true rfl)) dX2_limbs_1 ⟨Nat.le_of_ble_eq_true rfl, Nat.le_of_ble_eq_true rfl⟩).run (fun r1 hc1 => ?_)
  refine lv_lstore_n (lv' := [(1, .long r1), (0, .ref o)]) hx hb dX2_limbs_4 rfl hl (by decide) rfl (fun ls hl => ?_)
  refine lv_lload_n hx hb dX2_limbs_5 rfl (lv_at hl 0 rfl) ?_
  refine lv_lconst (v := 0) hx hb dX2_limbs_6 (by decide) ?_
  refine W.lcmp hx hb dX2_limbs_7 ?_
  refine lv_if_eq (tgt := 26) hx hb dX2_limbs_8 (by decide) (fun c_8 => ?_) (fun c_8 => ?_)
  · have c_8 : r1.toInt = (0 : Int) := lc_eq c_8
    refine lv_aload_n hx hb dX2_limbs_26 rfl (lv_at hl 1 rfl) ?_
    refine vp_callSl (va_runV (As := []) (rest := []) ⟨hx, hb, hml, hown, hTB⟩ (c_X2_lowOfAmount l D cZ cI cJ o hi lo) (cw_V hTB tb_17_1 tb_2_9 tb_16_22 tb_16_23 tb_17_0 nd_X2_lowOfAmount rfl rfl ⟨Nat.le_of_ble_eq_true rfl, Nat.le_of_ble_eq_true rfl⟩) (prr_V (q0 := 0) hK hP [0] rfl rfl rfl) rfl rfl hl.1 rfl (lv_room (Nat.le_of_ble_eq_true rfl)) dX2_limbs_27 ⟨Nat.le_of_ble_eq_true rfl, Nat.le_of_ble_eq_true rfl⟩).run (fun r27 hc27 => ?_)
    refine lv_bipush (v := 32) hx hb dX2_limbs_30 (by decide) ?_
    refine lv_lushr (v := (r27.toUInt64 >>> ((32 : Int32).toInt64.toUInt64 &&& Int64.toUInt64 63)).toInt64) hx hb dX2_limbs_32 rfl ?_
    refine lv_lconst (v := 0) hx hb dX2_limbs_33 (by decide) ?_
    refine W.lcmp hx hb dX2_limbs_34 ?_
    refine lv_if_eq (tgt := 42) hx hb dX2_limbs_35 (by decide) (fun c_35 => ?_) (fun c_35 => ?_)
    · have c_35 : ((r27.toUInt64 >>> ((32 : Int32).toInt64.toUInt64 &&& Int64.toUInt64 63)).toInt64).toInt = (0 : Int) := lc_eq c_35
      refine lv_iconst (v := 1) hx hb dX2_limbs_42 (by decide) ?_
      exact hret rfl (by have g1 := uN_s32 r1; have g2 := uN_of r1; have g3 := sI_rng r1; have g4 := uN_of (r1.toUInt64 >>> ((32 : Int32).toInt64.toUInt64 &&& Int64.toUInt64 63)).toInt64; have g5 := sI_rng (r1.toUInt64 >>> ((32 : Int32).toInt64.toUInt64 &&& Int64.toUInt64 63)).toInt64; have g6 := uN_lt r1; have k1 := uN_s32 r27; have k2 := uN_of r27; have k4 := uN_of (r27.toUInt64 >>> ((32 : Int32).toInt64.toUInt64 &&& Int64.toUInt64 63)).toInt64; have k5 := sI_rng (r27.toUInt64 >>> ((32 : Int32).toInt64.toUInt64 &&& Int64.toUInt64 63)).toInt64; have k6 := uN_lt r27; rw [show nl (wv hi lo).natAbs = 1 by (unfold nl; rw [if_pos (by omega)])]; rfl) dX2_limbs_43
    · have c_35 : ((r27.toUInt64 >>> ((32 : Int32).toInt64.toUInt64 &&& Int64.toUInt64 63)).toInt64).toInt ≠ (0 : Int) := lc_ne c_35
      refine lv_iconst (v := 2) hx hb dX2_limbs_38 (by decide) ?_
      refine lv_goto (tgt := 43) hx hb dX2_limbs_39 (by decide) ?_
      exact hret rfl (by have g1 := uN_s32 r1; have g2 := uN_of r1; have g3 := sI_rng r1; have g4 := uN_of (r1.toUInt64 >>> ((32 : Int32).toInt64.toUInt64 &&& Int64.toUInt64 63)).toInt64; have g5 := sI_rng (r1.toUInt64 >>> ((32 : Int32).toInt64.toUInt64 &&& Int64.toUInt64 63)).toInt64; have g6 := uN_lt r1; have k1 := uN_s32 r27; have k2 := uN_of r27; have k4 := uN_of (r27.toUInt64 >>> ((32 : Int32).toInt64.toUInt64 &&& Int64.toUInt64 63)).toInt64; have k5 := sI_rng (r27.toUInt64 >>> ((32 : Int32).toInt64.toUInt64 &&& Int64.toUInt64 63)).toInt64; have k6 := uN_lt r27; rw [show nl (wv hi lo).natAbs = 2 by (unfold nl; rw [if_neg (by omega), if_pos (by omega)])]; rfl) dX2_limbs_43
  · have c_8 : r1.toInt ≠ (0 : Int) := lc_ne c_8
    refine lv_lload_n hx hb dX2_limbs_11 rfl (lv_at hl 0 rfl) ?_
    refine lv_bipush (v := 32) hx hb dX2_limbs_12 (by decide) ?_
    refine lv_lushr (v := (r1.toUInt64 >>> ((32 : Int32).toInt64.toUInt64 &&& Int64.toUInt64 63)).toInt64) hx hb dX2_limbs_14 rfl ?_
    refine lv_lconst (v := 0) hx hb dX2_limbs_15 (by decide) ?_
    refine W.lcmp hx hb dX2_limbs_16 ?_
    refine lv_if_eq (tgt := 24) hx hb dX2_limbs_17 (by decide) (fun c_17 => ?_) (fun c_17 => ?_)
    · have c_17 : ((r1.toUInt64 >>> ((32 : Int32).toInt64.toUInt64 &&& Int64.toUInt64 63)).toInt64).toInt = (0 : Int) := lc_eq c_17
      refine lv_iconst (v := 3) hx hb dX2_limbs_24 (by decide) ?_
      exact hret rfl (by have g1 := uN_s32 r1; have g2 := uN_of r1; have g3 := sI_rng r1; have g4 := uN_of (r1.toUInt64 >>> ((32 : Int32).toInt64.toUInt64 &&& Int64.toUInt64 63)).toInt64; have g5 := sI_rng (r1.toUInt64 >>> ((32 : Int32).toInt64.toUInt64 &&& Int64.toUInt64 63)).toInt64; have g6 := uN_lt r1; rw [show nl (wv hi lo).natAbs = 3 by (unfold nl; rw [if_neg (by omega), if_neg (by omega), if_pos (by omega)])]; rfl) dX2_limbs_25
    · have c_17 : ((r1.toUInt64 >>> ((32 : Int32).toInt64.toUInt64 &&& Int64.toUInt64 63)).toInt64).toInt ≠ (0 : Int) := lc_ne c_17
      refine lv_iconst (v := 4) hx hb dX2_limbs_20 (by decide) ?_
      refine lv_goto (tgt := 25) hx hb dX2_limbs_21 (by decide) ?_
      exact hret rfl (by have g1 := uN_s32 r1; have g2 := uN_of r1; have g3 := sI_rng r1; have g4 := uN_of (r1.toUInt64 >>> ((32 : Int32).toInt64.toUInt64 &&& Int64.toUInt64 63)).toInt64; have g5 := sI_rng (r1.toUInt64 >>> ((32 : Int32).toInt64.toUInt64 &&& Int64.toUInt64 63)).toInt64; have g6 := uN_lt r1; rw [show nl (wv hi lo).natAbs = 4 by (unfold nl; rw [if_neg (by omega), if_neg (by omega), if_neg (by omega)])]; rfl) dX2_limbs_25

set_option maxHeartbeats 4000000 in
set_option maxRecDepth 100000 in
theorem c_X2_limbOfAmount (l : Launch) (D : va_G) (cZ cI cJ : ClassId) (o : Nat) (hi lo : Int64) (k : Int32) (n : Nat) (hn : n < 4) (hk : k = nI n) : Rl l D cZ cI cJ yX2_limbOfAmount cX2_limbOfAmount 4 (some .long) { frames := 1, cells := 0, slots := 0, locals := 20 } [.ref o, .int k] [(o, .inr (2, [.long hi, .long lo]))] (fun r => uN r = lb (wv hi lo).natAbs n) := by
  refine Rl.of (by decide) ?_
  intro p e s m args below meth c Q hB hret hP
  obtain ⟨hx, hb, hr, hlocks, hml, hown, hnm, hTB, hK⟩ := hB
  have hown : s.vm.findClass RX2 = some m.cls := hown
  have hl := lv_entry ([.ref o, .int k]) (n := 4) (Nat.le_of_ble_eq_true rfl)
  rw [lg_entry_eq]
  generalize (lg_sl ([.ref o, .int k]) ++ List.replicate (4 - (lg_sl ([.ref o, .int k])).length) Slot.unset).toArray = ls at hl ⊢
  have hl : lv_has ls 4 [(0, .ref o), (1, .int k)] := hl
  refine lv_iload_n hx hb dX2_limbOfAmount_0 rfl (lv_at hl 1 rfl) ?_
  refine lv_iconst (v := 2) hx hb dX2_limbOfAmount_1 (by decide) ?_
  refine lv_icmp_ge (tgt := 12) hx hb dX2_limbOfAmount_2 (by decide) (fun c_2 => ?_) (fun c_2 => ?_)
  · refine lv_aload_n hx hb dX2_limbOfAmount_12 rfl (lv_at hl 0 rfl) ?_
    refine vp_callSl (va_runV (As := []) (rest := []) ⟨hx, hb, hml, hown, hTB⟩ (c_X2_highOfAmount l D cZ cI cJ o hi lo) (cw_V hTB tb_16_21 tb_2_9 tb_16_18 tb_16_19 tb_16_20 nd_X2_highOfAmount rfl rfl ⟨Nat.le_of_ble_eq_true rfl, Nat.le_of_ble_eq_true rfl⟩) (prr_V (q0 := 0) hK hP [0] rfl rfl rfl) rfl rfl hl.1 rfl (lv_room (Nat.le_of_ble_eq_true rfl)) dX2_limbOfAmount_13 ⟨Nat.le_of_ble_eq_true rfl, Nat.le_of_ble_eq_true rfl⟩).run (fun r13 hc13 => ?_)
    refine lv_lstore_n (lv' := [(2, .long r13), (0, .ref o), (1, .int k)]) hx hb dX2_limbOfAmount_16 rfl hl (by decide) rfl (fun ls hl => ?_)
    refine lv_iload_n hx hb dX2_limbOfAmount_17 rfl (lv_at hl 2 rfl) ?_
    refine lv_iconst (v := 1) hx hb dX2_limbOfAmount_18 (by decide) ?_
    refine lv_iand hx hb dX2_limbOfAmount_19 ?_
    refine lv_if_ne (tgt := 31) hx hb dX2_limbOfAmount_20 (by decide) (fun c_20 => ?_) (fun c_20 => ?_)
    · refine lv_lload_n hx hb dX2_limbOfAmount_31 rfl (lv_at hl 0 rfl) ?_
      refine lv_bipush (v := 32) hx hb dX2_limbOfAmount_32 (by decide) ?_
      refine lv_lushr (v := (r13.toUInt64 >>> ((32 : Int32).toInt64.toUInt64 &&& Int64.toUInt64 63)).toInt64) hx hb dX2_limbOfAmount_34 rfl ?_
      exact hret (by subst hk; have hw := wv_in hi lo; unfold In at hw; have g := uN_s32 r13; rw [g]; rcases (show n = 0 ∨ n = 1 ∨ n = 2 ∨ n = 3 by omega) with rfl | rfl | rfl | rfl <;> first | (exact absurd c_2 (by decide)) | (exact absurd c_20 (by decide)) | (simp only [lb, Nat.reducePow, Nat.pow_zero]; omega)) dX2_limbOfAmount_35
    · refine lv_lload_n hx hb dX2_limbOfAmount_23 rfl (lv_at hl 0 rfl) ?_
      refine lv_ldc2 (v := 4294967295) hx hb hown (hTB _ tb_5_11) dX2_limbOfAmount_24 ?_
      refine lv_land hx hb dX2_limbOfAmount_27 ?_
      refine lv_goto (tgt := 35) hx hb dX2_limbOfAmount_28 (by decide) ?_
      exact hret (by subst hk; have hw := wv_in hi lo; unfold In at hw; have g := uN_lo r13; rw [g]; rcases (show n = 0 ∨ n = 1 ∨ n = 2 ∨ n = 3 by omega) with rfl | rfl | rfl | rfl <;> first | (exact absurd c_2 (by decide)) | (exact absurd c_20 (by decide)) | (simp only [lb, Nat.reducePow, Nat.pow_zero]; omega)) dX2_limbOfAmount_35
  · refine lv_aload_n hx hb dX2_limbOfAmount_5 rfl (lv_at hl 0 rfl) ?_
    refine vp_callSl (va_runV (As := []) (rest := []) ⟨hx, hb, hml, hown, hTB⟩ (c_X2_lowOfAmount l D cZ cI cJ o hi lo) (cw_V hTB tb_17_1 tb_2_9 tb_16_22 tb_16_23 tb_17_0 nd_X2_lowOfAmount rfl rfl ⟨Nat.le_of_ble_eq_true rfl, Nat.le_of_ble_eq_true rfl⟩) (prr_V (q0 := 0) hK hP [0] rfl rfl rfl) rfl rfl hl.1 rfl (lv_room (Nat.le_of_ble_eq_true rfl)) dX2_limbOfAmount_6 ⟨Nat.le_of_ble_eq_true rfl, Nat.le_of_ble_eq_true rfl⟩).run (fun r6 hc6 => ?_)
    refine lv_goto (tgt := 16) hx hb dX2_limbOfAmount_9 (by decide) ?_
    refine lv_lstore_n (lv' := [(2, .long r6), (0, .ref o), (1, .int k)]) hx hb dX2_limbOfAmount_16 rfl hl (by decide) rfl (fun ls hl => ?_)
    refine lv_iload_n hx hb dX2_limbOfAmount_17 rfl (lv_at hl 2 rfl) ?_
    refine lv_iconst (v := 1) hx hb dX2_limbOfAmount_18 (by decide) ?_
    refine lv_iand hx hb dX2_limbOfAmount_19 ?_
    refine lv_if_ne (tgt := 31) hx hb dX2_limbOfAmount_20 (by decide) (fun c_20 => ?_) (fun c_20 => ?_)
    · refine lv_lload_n hx hb dX2_limbOfAmount_31 rfl (lv_at hl 0 rfl) ?_
      refine lv_bipush (v := 32) hx hb dX2_limbOfAmount_32 (by decide) ?_
      refine lv_lushr (v := (r6.toUInt64 >>> ((32 : Int32).toInt64.toUInt64 &&& Int64.toUInt64 63)).toInt64) hx hb dX2_limbOfAmount_34 rfl ?_
      exact hret (by subst hk; have hw := wv_in hi lo; unfold In at hw; have g := uN_s32 r6; rw [g]; rcases (show n = 0 ∨ n = 1 ∨ n = 2 ∨ n = 3 by omega) with rfl | rfl | rfl | rfl <;> first | (exact absurd c_2 (by decide)) | (exact absurd c_20 (by decide)) | (simp only [lb, Nat.reducePow, Nat.pow_zero]; omega)) dX2_limbOfAmount_35
    · refine lv_lload_n hx hb dX2_limbOfAmount_23 rfl (lv_at hl 0 rfl) ?_
      refine lv_ldc2 (v := 4294967295) hx hb hown (hTB _ tb_5_11) dX2_limbOfAmount_24 ?_
      refine lv_land hx hb dX2_limbOfAmount_27 ?_
      refine lv_goto (tgt := 35) hx hb dX2_limbOfAmount_28 (by decide) ?_
      exact hret (by subst hk; have hw := wv_in hi lo; unfold In at hw; have g := uN_lo r6; rw [g]; rcases (show n = 0 ∨ n = 1 ∨ n = 2 ∨ n = 3 by omega) with rfl | rfl | rfl | rfl <;> first | (exact absurd c_2 (by decide)) | (exact absurd c_20 (by decide)) | (simp only [lb, Nat.reducePow, Nat.pow_zero]; omega)) dX2_limbOfAmount_35
end
section
/-! branch facts of compare and sign -/
theorem cm_eqt {a b : Int} (c : cm a b = 0) : a = b := by
  unfold cm at c; split at c
  · exact absurd c (by decide)
  · split at c
    · assumption
    · exact absurd c (by decide)
theorem cm_eqf {a b : Int} (c : ¬ cm a b = 0) : a ≠ b := fun e => c (by unfold cm; rw [if_neg (by omega), if_pos e])
theorem cm_net {a b : Int} (c : ¬ cm a b = 0) : a ≠ b := cm_eqf c
theorem cm_nef {a b : Int} (c : cm a b = 0) : a = b := cm_eqt c
theorem cm_ltt {a b : Int} (c : cm a b < 0) : a < b := by
  unfold cm at c; split at c
  · assumption
  · split at c <;> exact absurd c (by decide)
theorem cm_ltf {a b : Int} (c : ¬ cm a b < 0) : b ≤ a := Int.not_lt.mp (fun e => c (by unfold cm; rw [if_pos e]; decide))
theorem cm_gtt {a b : Int} (c : 0 < cm a b) : b < a := by
  unfold cm at c; split at c
  · exact absurd c (by decide)
  · split at c
    · exact absurd c (by decide)
    · omega
theorem cm_gtf {a b : Int} (c : ¬ 0 < cm a b) : a ≤ b := Int.not_lt.mp (fun e => c (by unfold cm; rw [if_neg (by omega), if_neg (by omega)]; decide))
theorem cm_get {a b : Int} (c : 0 ≤ cm a b) : b ≤ a := by
  unfold cm at c; split at c
  · exact absurd c (by decide)
  · omega
theorem cm_gef {a b : Int} (c : ¬ 0 ≤ cm a b) : a < b := Int.not_le.mp (fun e => c (by
  unfold cm; rw [if_neg (by omega)]; split <;> decide))
theorem cm_let {a b : Int} (c : cm a b ≤ 0) : a ≤ b := by
  unfold cm at c; split at c
  · omega
  · split at c
    · omega
    · exact absurd c (by decide)
theorem cm_lef {a b : Int} (c : ¬ cm a b ≤ 0) : b < a := Int.not_le.mp (fun e => c (by
  unfold cm; split
  · decide
  · rw [if_pos (by omega)]; decide))
theorem sg_cm (z : Int) : sg z = cm z 0 := rfl
theorem sg_eqt {z : Int} (c : sg z = 0) : z = 0 := cm_eqt c
theorem sg_eqf {z : Int} (c : ¬ sg z = 0) : z ≠ 0 := cm_eqf c
theorem sg_net {z : Int} (c : ¬ sg z = 0) : z ≠ 0 := cm_eqf c
theorem sg_nef {z : Int} (c : sg z = 0) : z = 0 := cm_eqt c
theorem sg_ltt {z : Int} (c : sg z < 0) : z < 0 := cm_ltt c
theorem sg_ltf {z : Int} (c : ¬ sg z < 0) : 0 ≤ z := cm_ltf c
theorem sg_gtt {z : Int} (c : 0 < sg z) : 0 < z := cm_gtt c
theorem sg_gtf {z : Int} (c : ¬ 0 < sg z) : z ≤ 0 := cm_gtf c
theorem sg_get {z : Int} (c : 0 ≤ sg z) : 0 ≤ z := cm_get c
theorem sg_gef {z : Int} (c : ¬ 0 ≤ sg z) : z < 0 := cm_gef c
theorem sg_let {z : Int} (c : sg z ≤ 0) : z ≤ 0 := cm_let c
theorem sg_lef {z : Int} (c : ¬ sg z ≤ 0) : 0 < z := cm_lef c
/-! division bit by bit -/
theorem pw_s (M k : Nat) : M * 2 ^ (k + 1) = 2 * (M * 2 ^ k) := by rw [Nat.pow_succ, ← Nat.mul_assoc, Nat.mul_comm]
theorem pw_pos {M : Nat} (h : 0 < M) (k : Nat) : 0 < M * 2 ^ k := Nat.mul_pos h (Nat.two_pow_pos k)
theorem pw_ge {M : Nat} (h : 0 < M) (k : Nat) : 2 ^ k ≤ M * 2 ^ k := by
  have := Nat.mul_le_mul_right (2 ^ k) h
  omega
theorem dv_s0 {N M Q R i : Nat} (e : N = Q * (M * 2 ^ (i + 1)) + R) : N = (2 * Q) * (M * 2 ^ i) + R := by
  rw [e, pw_s, ← Nat.mul_assoc, Nat.mul_comm Q 2]
theorem dv_s1 {N M Q R i : Nat} (e : N = Q * (M * 2 ^ (i + 1)) + R) (h : M * 2 ^ i ≤ R) : N = (2 * Q + 1) * (M * 2 ^ i) + (R - M * 2 ^ i) := by
  rw [dv_s0 e, Nat.add_mul, Nat.one_mul]
  omega
theorem dv_q {N M Q R i : Nat} (hM : 0 < M) (e : N = Q * (M * 2 ^ (i + 1)) + R) : 2 * Q ≤ N := by
  have h1 := pw_pos hM i
  have h2 : Q * 1 ≤ Q * (M * 2 ^ i) := Nat.mul_le_mul_left Q h1
  have h3 := pw_s M i
  have h4 : Q * (M * 2 ^ (i + 1)) = 2 * (Q * (M * 2 ^ i)) := by rw [h3, ← Nat.mul_assoc, Nat.mul_comm Q 2, Nat.mul_assoc]
  omega
theorem dv_end {N M Q R : Nat} (hM : 0 < M) (e : N = Q * (M * 2 ^ 0) + R) (h : R < M * 2 ^ 0) : Q = N / M ∧ R = N % M := by
  rw [Nat.pow_zero, Nat.mul_one] at e h
  have := (Nat.div_mod_unique (a := N) (b := M) (c := R) (d := Q) hM).mpr ⟨by rw [e, Nat.mul_comm]; omega, h⟩
  exact ⟨this.1.symm, this.2.symm⟩
theorem ni_pt {x : Int32} {j : Nat} (hj : j < 2 ^ 31) (e : x = nI j - 1) (c : x < 0) : j = 0 := by
  cases j with
  | zero => rfl
  | succ i => rw [e, nI_pred] at c; exact absurd c (nI_pos (by omega))
theorem ni_pf {x : Int32} {j : Nat} (hj : j < 2 ^ 31) (e : x = nI j - 1) (c : ¬ x < 0) : ∃ i, j = i + 1 ∧ x = nI i := by
  cases j with
  | zero => rw [e] at c; exact absurd (by decide) c
  | succ i => exact ⟨i, rfl, by rw [e, nI_pred]⟩
theorem ni_m (x : Int32) : x + (-1) = x - 1 := (Int32.sub_eq_add_neg x 1).symm
/-! greatest common divisors by halves and differences -/
theorem cop2 {n : Nat} (h : n % 2 = 1) : Nat.Coprime 2 n := by
  show Nat.gcd 2 n = 1
  rw [Nat.gcd_rec, h]
  decide
theorem g_ee {R C : Nat} (h1 : R % 2 = 0) (h2 : C % 2 = 0) : Nat.gcd R C = 2 * Nat.gcd (R / 2) (C / 2) := by
  rw [← Nat.gcd_mul_left, show 2 * (R / 2) = R by omega, show 2 * (C / 2) = C by omega]
theorem g_eo {R C : Nat} (h1 : R % 2 = 0) (h2 : C % 2 = 1) : Nat.gcd (R / 2) C = Nat.gcd R C := by
  have := Nat.Coprime.gcd_mul_left_cancel (R / 2) (cop2 h2)
  rw [show 2 * (R / 2) = R by omega] at this
  exact this.symm
theorem g_oe {R C : Nat} (h1 : R % 2 = 1) (h2 : C % 2 = 0) : Nat.gcd R (C / 2) = Nat.gcd R C := by
  rw [Nat.gcd_comm, g_eo h2 h1, Nat.gcd_comm]
theorem g_oo1 {R C : Nat} (h1 : R % 2 = 1) (h2 : C % 2 = 1) (h : C ≤ R) : Nat.gcd ((R - C) / 2) C = Nat.gcd R C := by
  rw [g_eo (by omega) h2, Nat.gcd_sub_self_left h]
theorem g_oo2 {R C : Nat} (h1 : R % 2 = 1) (h2 : C % 2 = 1) (h : R ≤ C) : Nat.gcd R ((C - R) / 2) = Nat.gcd R C := by
  rw [Nat.gcd_comm, g_oo1 h2 h1 h, Nat.gcd_comm]
theorem pw_half {R a : Nat} (h : R < 2 ^ a) (h0 : 0 < R / 2) : R / 2 < 2 ^ (a - 1) ∧ 0 < a := by
  cases a with
  | zero => rw [Nat.pow_zero] at h; omega
  | succ a => rw [Nat.pow_succ] at h; rw [Nat.add_sub_cancel]; omega
theorem pw_half0 {R a : Nat} (h : R < 2 ^ a) (h0 : 0 < R) : R / 2 < 2 ^ (a - 1) ∧ 0 < a := by
  cases a with
  | zero => rw [Nat.pow_zero] at h; omega
  | succ a => rw [Nat.pow_succ] at h; rw [Nat.add_sub_cancel]; omega
theorem lo_of {h l : Int64} {n : Nat} (e : wv h l = (n : Int)) : l = lN n := by
  refine uN_inj ?_
  have a := uN_lt l
  have b : uN (lN n) = n % 18446744073709551616 := rfl
  unfold wv at e
  rw [b]
  omega
/-! rules of quotients -/
def mN (rule : Int32) (q r m : Nat) : Bool := decide (m < 2 * r) || (decide (2 * r = m) && (decide (rule = 4) || (decide (rule = 6) && decide (q % 2 = 1))))
def mO (rule : Int32) (ng : Bool) (q r m : Nat) : Bool := decide (r ≠ 0) && (if rule = 0 then ng else if rule = 1 then !ng else if rule = 2 then false else if rule = 3 then true else mN rule q r m)
def ngv (a b : Int) : Bool := decide (sg a * sg b < 0)
def rdv (rule : Int32) (a b : Int) : Int64 := if ngv a b = true then -(if mO rule (ngv a b) (a.natAbs / b.natAbs) (a.natAbs % b.natAbs) b.natAbs = true then lN (a.natAbs / b.natAbs) + 1 else lN (a.natAbs / b.natAbs)) else (if mO rule (ngv a b) (a.natAbs / b.natAbs) (a.natAbs % b.natAbs) b.natAbs = true then lN (a.natAbs / b.natAbs) + 1 else lN (a.natAbs / b.natAbs))
theorem mN_iff {rule : Int32} {q r m : Nat} : mN rule q r m = true ↔ m < 2 * r ∨ (2 * r = m ∧ (rule = 4 ∨ (rule = 6 ∧ q % 2 = 1))) := by
  simp only [mN, Bool.or_eq_true, Bool.and_eq_true, decide_eq_true_eq]
theorem mO_0 {rule : Int32} {ng : Bool} {q r m : Nat} (h : r = 0) : ¬ mO rule ng q r m = true := by simp [mO, h]
theorem mO_c {rule : Int32} {ng : Bool} {q r m : Nat} (h : r ≠ 0) : mO rule ng q r m = (if rule = 0 then ng else if rule = 1 then !ng else if rule = 2 then false else if rule = 3 then true else mN rule q r m) := by simp [mO, h]
theorem i32_of {x : Int32} {k : Int32} (h : x.toInt = k.toInt) : x = k := Int32.toInt_inj.mp h
theorem i32_ne {x : Int32} {k : Int32} (h : ¬ x.toInt = k.toInt) : ¬ x = k := fun q => h (by rw [q])
theorem sw_3 (x : Int32) : x.toInt = 0 ∨ x.toInt = 1 ∨ x.toInt = 2 ∨ x.toInt = 3 ∨ (x.toInt < 0 ∨ 3 < x.toInt) := by omega
theorem sw_2 (x : Int32) : x.toInt = 0 ∨ x.toInt = 1 ∨ x.toInt = 2 ∨ (x.toInt < 0 ∨ 2 < x.toInt) := by omega
theorem bz_c {p q : Prop} [Decidable p] [Decidable q] (h : p ↔ q) : bz p = bz q := by
  by_cases hp : p
  · rw [← bz_t hp, ← bz_t (h.mp hp)]
  · rw [← bz_f hp, ← bz_f (fun z => hp (h.mpr z))]
theorem ng_f {a b : Int} (c : 0 ≤ sg a * sg b) : ¬ ngv a b = true := by
  unfold ngv
  simp only [decide_eq_true_eq]
  exact Int32.not_lt.mpr c
theorem ng_t {a b : Int} (c : ¬ 0 ≤ sg a * sg b) : ngv a b = true := by
  unfold ngv
  simp only [decide_eq_true_eq]
  exact Int32.not_le.mp c
theorem exd0 {A : Int} {G : Nat} (h0 : 0 < G) (hA : 0 ≤ A) : A / (G : Int) = ((A.natAbs / G : Nat) : Int) := by
  rw [Int.natCast_ediv, Int.natAbs_of_nonneg hA]
theorem exd1 {A : Int} {G : Nat} (h : G ∣ A.natAbs) (h0 : 0 < G) (hA : A < 0) : A / (G : Int) = -((A.natAbs / G : Nat) : Int) := by
  obtain ⟨k, hk⟩ := h
  have e : A = (G : Int) * (-(k : Int)) := by
    rw [Int.mul_neg, ← Int.natCast_mul, ← hk]; omega
  have e2 : A.natAbs / G = k := by rw [hk]; exact Nat.mul_div_cancel_left k h0
  rw [e2]
  conv => lhs; rw [e]
  exact Int.mul_ediv_cancel_left _ (by omega)
end
section
theorem nd_X0_init : yX0_init.cls ≠ "java/lang/invoke/MethodHandle" ∧ yX0_init.cls ≠ "java/lang/invoke/VarHandle" ∧ (parseMethodDescriptor yX0_init.desc).map (fun d => d.parameters.length) = some 0 := by decide +kernel
theorem nd_X0_rounded : yX0_rounded.cls ≠ "java/lang/invoke/MethodHandle" ∧ yX0_rounded.cls ≠ "java/lang/invoke/VarHandle" ∧ (parseMethodDescriptor yX0_rounded.desc).map (fun d => d.parameters.length) = some 3 := by decide +kernel
theorem nd_X0_divideAmounts : yX0_divideAmounts.cls ≠ "java/lang/invoke/MethodHandle" ∧ yX0_divideAmounts.cls ≠ "java/lang/invoke/VarHandle" ∧ (parseMethodDescriptor yX0_divideAmounts.desc).map (fun d => d.parameters.length) = some 2 := by decide +kernel
theorem nd_X0_isOneMore : yX0_isOneMore.cls ≠ "java/lang/invoke/MethodHandle" ∧ yX0_isOneMore.cls ≠ "java/lang/invoke/VarHandle" ∧ (parseMethodDescriptor yX0_isOneMore.desc).map (fun d => d.parameters.length) = some 2 := by decide +kernel
theorem nd_X0_isOneMoreNearer : yX0_isOneMoreNearer.cls ≠ "java/lang/invoke/MethodHandle" ∧ yX0_isOneMoreNearer.cls ≠ "java/lang/invoke/VarHandle" ∧ (parseMethodDescriptor yX0_isOneMoreNearer.desc).map (fun d => d.parameters.length) = some 1 := by decide +kernel
theorem nd_X0_findCommon : yX0_findCommon.cls ≠ "java/lang/invoke/MethodHandle" ∧ yX0_findCommon.cls ≠ "java/lang/invoke/VarHandle" ∧ (parseMethodDescriptor yX0_findCommon.desc).map (fun d => d.parameters.length) = some 2 := by decide +kernel
theorem nd_X0_takeLessFromGreater : yX0_takeLessFromGreater.cls ≠ "java/lang/invoke/MethodHandle" ∧ yX0_takeLessFromGreater.cls ≠ "java/lang/invoke/VarHandle" ∧ (parseMethodDescriptor yX0_takeLessFromGreater.desc).map (fun d => d.parameters.length) = some 0 := by decide +kernel
theorem nd_X0_takeCommonOut : yX0_takeCommonOut.cls ≠ "java/lang/invoke/MethodHandle" ∧ yX0_takeCommonOut.cls ≠ "java/lang/invoke/VarHandle" ∧ (parseMethodDescriptor yX0_takeCommonOut.desc).map (fun d => d.parameters.length) = some 1 := by decide +kernel
theorem nd_X1_init : yX1_init.cls ≠ "java/lang/invoke/MethodHandle" ∧ yX1_init.cls ≠ "java/lang/invoke/VarHandle" ∧ (parseMethodDescriptor yX1_init.desc).map (fun d => d.parameters.length) = some 0 := by decide +kernel
theorem nd_X1_putWhole : yX1_putWhole.cls ≠ "java/lang/invoke/MethodHandle" ∧ yX1_putWhole.cls ≠ "java/lang/invoke/VarHandle" ∧ (parseMethodDescriptor yX1_putWhole.desc).map (fun d => d.parameters.length) = some 1 := by decide +kernel
theorem nd_X1_putOnWay : yX1_putOnWay.cls ≠ "java/lang/invoke/MethodHandle" ∧ yX1_putOnWay.cls ≠ "java/lang/invoke/VarHandle" ∧ (parseMethodDescriptor yX1_putOnWay.desc).map (fun d => d.parameters.length) = some 4 := by decide +kernel
theorem nd_X1_reduce : yX1_reduce.cls ≠ "java/lang/invoke/MethodHandle" ∧ yX1_reduce.cls ≠ "java/lang/invoke/VarHandle" ∧ (parseMethodDescriptor yX1_reduce.desc).map (fun d => d.parameters.length) = some 1 := by decide +kernel

set_option maxHeartbeats 4000000 in
set_option maxRecDepth 100000 in
theorem c_X0_divideAmounts (l : Launch) (D : va_G) (cZ cI cJ : ClassId) (o q r d lm co up lw : Nat) (qh ql rh rl dh dl mh ml uh ul vh vl : Int64) (N M : Nat) (hN : (wv uh ul).natAbs = N) (hM : (wv vh vl).natAbs = M) (hM0 : 0 < M) (hN1 : N < 170141183460469231731687303715884105728) (hM1 : M < 170141183460469231731687303715884105728) : Cv l D cZ cI cJ yX0_divideAmounts cX0_divideAmounts 5 { frames := 2, cells := 0, slots := 0, locals := 44 } [.ref o, .ref up, .ref lw] [(o, .inr (0, [.ref q, .ref r, .ref d, .ref lm, .ref co])), (q, .inr (2, [.long qh, .long ql])), (r, .inr (2, [.long rh, .long rl])), (d, .inr (2, [.long dh, .long dl])), (lm, .inr (2, [.long mh, .long ml])), (up, .inr (2, [.long uh, .long ul])), (lw, .inr (2, [.long vh, .long vl]))] (S := (Int64 × Int64) × (Int64 × Int64) × (Int64 × Int64) × (Int64 × Int64)) (fun u => wv u.1.1 u.1.2 = ((N / M : Nat) : Int) ∧ wv u.2.1.1 u.2.1.2 = ((N % M : Nat) : Int) ∧ wv u.2.2.1.1 u.2.2.1.2 = (M : Int)) (fun u => [(o, .inr (0, [.ref q, .ref r, .ref d, .ref lm, .ref co])), (q, .inr (2, [.long u.1.1, .long u.1.2])), (r, .inr (2, [.long u.2.1.1, .long u.2.1.2])), (d, .inr (2, [.long u.2.2.1.1, .long u.2.2.1.2])), (lm, .inr (2, [.long u.2.2.2.1, .long u.2.2.2.2])), (up, .inr (2, [.long uh, .long ul])), (lw, .inr (2, [.long vh, .long vl]))]) := by
  refine Cv.of (by decide) ?_
  intro p e s m args below meth c A Q hB hret hP hD hA
  obtain ⟨hx, hb, hr, hlocks, hml, hown, hnm, hTB, hK⟩ := hB
  have hown : s.vm.findClass RX0 = some m.cls := hown
  have hS : va_S A s.heap s.heap [] := va_S.rf
  have hl := lv_entry ([.ref o, .ref up, .ref lw]) (n := 5) (Nat.le_of_ble_eq_true rfl)
  rw [lg_entry_eq]
  generalize (lg_sl ([.ref o, .ref up, .ref lw]) ++ List.replicate (5 - (lg_sl ([.ref o, .ref up, .ref lw])).length) Slot.unset).toArray = ls at hl ⊢
  have hl : lv_has ls 5 [(0, .ref o), (1, .ref up), (2, .ref lw)] := hl
  refine lv_aload_n hx hb dX0_divideAmounts_0 rfl (lv_at hl 0 rfl) ?_
  refine va_get (D := D) (ci := 0) (v := .ref q) (C := RX0) (T := TX0) (N := 5) hx hb hTB tb_X0 hown hK.1 hP 0 rfl rfl 0 (by decide) (hTB _ tb_3_4) (fun _ h9 => h9) rfl dX0_divideAmounts_1 ?_
  refine lv_lconst (v := 0) hx hb dX0_divideAmounts_4 (by decide) ?_
  refine fin_v (wr := [(o, .inr (0, [.ref q, .ref r, .ref d, .ref lm, .ref co])), (r, .inr (2, [.long rh, .long rl])), (d, .inr (2, [.long dh, .long dl])), (lm, .inr (2, [.long mh, .long ml])), (up, .inr (2, [.long uh, .long ul])), (lw, .inr (2, [.long vh, .long vl]))]) (va_runV (As := [.long 0]) (rest := []) ⟨hx, hb, hml, hown, hTB⟩ (c_X2_put l D cZ cI cJ q qh ql 0 _) (cw_V hTB tb_4_20 tb_2_9 tb_12_12 tb_4_18 tb_4_19 nd_X2_put rfl rfl ⟨Nat.le_of_ble_eq_true rfl, Nat.le_of_ble_eq_true rfl⟩) (pre_V (q0 := 1) hK hP hD [1] rfl rfl rfl rfl) rfl rfl hl.1 rfl (lv_room (Nat.le_of_ble_eq_true rfl)) dX0_divideAmounts_5 ⟨Nat.le_of_ble_eq_true rfl, Nat.le_of_ble_eq_true rfl⟩) hP hD hS hA [1] [0, 2, 3, 4, 5, 6] rfl rfl rfl (by decide) (fun u5 H locs hc5 hP hD hS => ?_)
  obtain ⟨w5h, w5l⟩ := u5
  try dsimp only at hc5
  have hP : va_P D vwCl [(o, .inr (0, [.ref q, .ref r, .ref d, .ref lm, .ref co])), (r, .inr (2, [.long rh, .long rl])), (d, .inr (2, [.long dh, .long dl])), (lm, .inr (2, [.long mh, .long ml])), (up, .inr (2, [.long uh, .long ul])), (lw, .inr (2, [.long vh, .long vl])), (q, .inr (2, [.long w5h, .long w5l]))] H := hP
  have hD : va_D A [(o, .inr (0, [.ref q, .ref r, .ref d, .ref lm, .ref co])), (r, .inr (2, [.long rh, .long rl])), (d, .inr (2, [.long dh, .long dl])), (lm, .inr (2, [.long mh, .long ml])), (up, .inr (2, [.long uh, .long ul])), (lw, .inr (2, [.long vh, .long vl])), (q, .inr (2, [.long w5h, .long w5l]))] := hD
  refine lv_aload_n hx hb dX0_divideAmounts_8 rfl (lv_at hl 0 rfl) ?_
  refine va_get (D := D) (ci := 0) (v := .ref r) (C := RX0) (T := TX0) (N := 5) hx hb hTB tb_X0 hown hK.1 hP 0 rfl rfl 1 (by decide) (hTB _ tb_3_5) (fun _ h9 => h9) rfl dX0_divideAmounts_9 ?_
  refine lv_aload_n hx hb dX0_divideAmounts_12 rfl (lv_at hl 1 rfl) ?_
  refine fin_v (wr := [(o, .inr (0, [.ref q, .ref r, .ref d, .ref lm, .ref co])), (d, .inr (2, [.long dh, .long dl])), (lm, .inr (2, [.long mh, .long ml])), (lw, .inr (2, [.long vh, .long vl])), (q, .inr (2, [.long w5h, .long w5l]))]) (va_runV (As := [.ref up]) (rest := []) ⟨hx, hb, hml, hown, hTB⟩ (c_X2_copyAmount l D cZ cI cJ r up rh rl uh ul _) (cw_V hTB tb_10_22 tb_2_9 tb_10_19 tb_10_20 tb_10_21 nd_X2_copyAmount rfl rfl ⟨Nat.le_of_ble_eq_true rfl, Nat.le_of_ble_eq_true rfl⟩) (pre_V (q0 := 1) hK hP hD [1, 4] rfl rfl rfl rfl) rfl rfl hl.1 rfl (lv_room (Nat.le_of_ble_eq_true rfl)) dX0_divideAmounts_13 ⟨Nat.le_of_ble_eq_true rfl, Nat.le_of_ble_eq_true rfl⟩) hP hD hS hA [1, 4] [0, 2, 3, 5, 6] rfl rfl rfl (by decide) (fun u13 H locs hc13 hP hD hS => ?_)
  obtain ⟨w13h, w13l⟩ := u13
  try dsimp only at hc13
  have hP : va_P D vwCl [(o, .inr (0, [.ref q, .ref r, .ref d, .ref lm, .ref co])), (d, .inr (2, [.long dh, .long dl])), (lm, .inr (2, [.long mh, .long ml])), (lw, .inr (2, [.long vh, .long vl])), (q, .inr (2, [.long w5h, .long w5l])), (r, .inr (2, [.long w13h, .long w13l])), (up, .inr (2, [.long uh, .long ul]))] H := hP
  have hD : va_D A [(o, .inr (0, [.ref q, .ref r, .ref d, .ref lm, .ref co])), (d, .inr (2, [.long dh, .long dl])), (lm, .inr (2, [.long mh, .long ml])), (lw, .inr (2, [.long vh, .long vl])), (q, .inr (2, [.long w5h, .long w5l])), (r, .inr (2, [.long w13h, .long w13l])), (up, .inr (2, [.long uh, .long ul]))] := hD
  have er : wv w13h w13l = (N : Int) := by rw [hc13 (by unfold In; omega), hN]
  refine lv_aload_n hx hb dX0_divideAmounts_16 rfl (lv_at hl 0 rfl) ?_
  refine va_get (D := D) (ci := 0) (v := .ref d) (C := RX0) (T := TX0) (N := 5) hx hb hTB tb_X0 hown hK.1 hP 0 rfl rfl 2 (by decide) (hTB _ tb_3_6) (fun _ h9 => h9) rfl dX0_divideAmounts_17 ?_
  refine lv_aload_n hx hb dX0_divideAmounts_20 rfl (lv_at hl 2 rfl) ?_
  refine fin_v (wr := [(o, .inr (0, [.ref q, .ref r, .ref d, .ref lm, .ref co])), (lm, .inr (2, [.long mh, .long ml])), (q, .inr (2, [.long w5h, .long w5l])), (r, .inr (2, [.long w13h, .long w13l])), (up, .inr (2, [.long uh, .long ul]))]) (va_runV (As := [.ref lw]) (rest := []) ⟨hx, hb, hml, hown, hTB⟩ (c_X2_copyAmount l D cZ cI cJ d lw dh dl vh vl _) (cw_V hTB tb_10_22 tb_2_9 tb_10_19 tb_10_20 tb_10_21 nd_X2_copyAmount rfl rfl ⟨Nat.le_of_ble_eq_true rfl, Nat.le_of_ble_eq_true rfl⟩) (pre_V (q0 := 1) hK hP hD [1, 3] rfl rfl rfl rfl) rfl rfl hl.1 rfl (lv_room (Nat.le_of_ble_eq_true rfl)) dX0_divideAmounts_21 ⟨Nat.le_of_ble_eq_true rfl, Nat.le_of_ble_eq_true rfl⟩) hP hD hS hA [1, 3] [0, 2, 4, 5, 6] rfl rfl rfl (by decide) (fun u21 H locs hc21 hP hD hS => ?_)
  obtain ⟨w21h, w21l⟩ := u21
  try dsimp only at hc21
  have hP : va_P D vwCl [(o, .inr (0, [.ref q, .ref r, .ref d, .ref lm, .ref co])), (lm, .inr (2, [.long mh, .long ml])), (q, .inr (2, [.long w5h, .long w5l])), (r, .inr (2, [.long w13h, .long w13l])), (up, .inr (2, [.long uh, .long ul])), (d, .inr (2, [.long w21h, .long w21l])), (lw, .inr (2, [.long vh, .long vl]))] H := hP
  have hD : va_D A [(o, .inr (0, [.ref q, .ref r, .ref d, .ref lm, .ref co])), (lm, .inr (2, [.long mh, .long ml])), (q, .inr (2, [.long w5h, .long w5l])), (r, .inr (2, [.long w13h, .long w13l])), (up, .inr (2, [.long uh, .long ul])), (d, .inr (2, [.long w21h, .long w21l])), (lw, .inr (2, [.long vh, .long vl]))] := hD
  have ed : wv w21h w21l = (M : Int) := by rw [hc21 (by unfold In; omega), hM]
  refine lv_aload_n hx hb dX0_divideAmounts_24 rfl (lv_at hl 0 rfl) ?_
  refine va_get (D := D) (ci := 0) (v := .ref lm) (C := RX0) (T := TX0) (N := 5) hx hb hTB tb_X0 hown hK.1 hP 0 rfl rfl 3 (by decide) (hTB _ tb_3_7) (fun _ h9 => h9) rfl dX0_divideAmounts_25 ?_
  refine lv_aload_n hx hb dX0_divideAmounts_28 rfl (lv_at hl 0 rfl) ?_
  refine va_get (D := D) (ci := 0) (v := .ref r) (C := RX0) (T := TX0) (N := 5) hx hb hTB tb_X0 hown hK.1 hP 0 rfl rfl 1 (by decide) (hTB _ tb_3_5) (fun _ h9 => h9) rfl dX0_divideAmounts_29 ?_
  refine fin_v (wr := [(o, .inr (0, [.ref q, .ref r, .ref d, .ref lm, .ref co])), (q, .inr (2, [.long w5h, .long w5l])), (up, .inr (2, [.long uh, .long ul])), (d, .inr (2, [.long w21h, .long w21l])), (lw, .inr (2, [.long vh, .long vl]))]) (va_runV (As := [.ref r]) (rest := []) ⟨hx, hb, hml, hown, hTB⟩ (c_X2_copy l D cZ cI cJ lm r mh ml w13h w13l _) (cw_V hTB tb_10_10 tb_2_9 tb_11_1 tb_10_8 tb_10_9 nd_X2_copy rfl rfl ⟨Nat.le_of_ble_eq_true rfl, Nat.le_of_ble_eq_true rfl⟩) (pre_V (q0 := 1) hK hP hD [1, 3] rfl rfl rfl rfl) rfl rfl hl.1 rfl (lv_room (Nat.le_of_ble_eq_true rfl)) dX0_divideAmounts_32 ⟨Nat.le_of_ble_eq_true rfl, Nat.le_of_ble_eq_true rfl⟩) hP hD hS hA [1, 3] [0, 2, 4, 5, 6] rfl rfl rfl (by decide) (fun u32 H locs hc32 hP hD hS => ?_)
  obtain ⟨w32h, w32l⟩ := u32
  try dsimp only at hc32
  have hP : va_P D vwCl [(o, .inr (0, [.ref q, .ref r, .ref d, .ref lm, .ref co])), (q, .inr (2, [.long w5h, .long w5l])), (up, .inr (2, [.long uh, .long ul])), (d, .inr (2, [.long w21h, .long w21l])), (lw, .inr (2, [.long vh, .long vl])), (lm, .inr (2, [.long w32h, .long w32l])), (r, .inr (2, [.long w13h, .long w13l]))] H := hP
  have hD : va_D A [(o, .inr (0, [.ref q, .ref r, .ref d, .ref lm, .ref co])), (q, .inr (2, [.long w5h, .long w5l])), (up, .inr (2, [.long uh, .long ul])), (d, .inr (2, [.long w21h, .long w21l])), (lw, .inr (2, [.long vh, .long vl])), (lm, .inr (2, [.long w32h, .long w32l])), (r, .inr (2, [.long w13h, .long w13l]))] := hD
  refine lv_aload_n hx hb dX0_divideAmounts_35 rfl (lv_at hl 0 rfl) ?_
  refine va_get (D := D) (ci := 0) (v := .ref lm) (C := RX0) (T := TX0) (N := 5) hx hb hTB tb_X0 hown hK.1 hP 0 rfl rfl 3 (by decide) (hTB _ tb_3_7) (fun _ h9 => h9) rfl dX0_divideAmounts_36 ?_
  refine fin_v (wr := [(o, .inr (0, [.ref q, .ref r, .ref d, .ref lm, .ref co])), (q, .inr (2, [.long w5h, .long w5l])), (up, .inr (2, [.long uh, .long ul])), (d, .inr (2, [.long w21h, .long w21l])), (lw, .inr (2, [.long vh, .long vl])), (r, .inr (2, [.long w13h, .long w13l]))]) (va_runV (As := []) (rest := []) ⟨hx, hb, hml, hown, hTB⟩ (c_X2_half l D cZ cI cJ lm w32h w32l _) (cw_V hTB tb_11_10 tb_2_9 tb_11_7 tb_11_8 tb_11_9 nd_X2_half rfl rfl ⟨Nat.le_of_ble_eq_true rfl, Nat.le_of_ble_eq_true rfl⟩) (pre_V (q0 := 5) hK hP hD [5] rfl rfl rfl rfl) rfl rfl hl.1 rfl (lv_room (Nat.le_of_ble_eq_true rfl)) dX0_divideAmounts_39 ⟨Nat.le_of_ble_eq_true rfl, Nat.le_of_ble_eq_true rfl⟩) hP hD hS hA [5] [0, 1, 2, 3, 4, 6] rfl rfl rfl (by decide) (fun u39 H locs hc39 hP hD hS => ?_)
  obtain ⟨w39h, w39l⟩ := u39
  try dsimp only at hc39
  have hP : va_P D vwCl [(o, .inr (0, [.ref q, .ref r, .ref d, .ref lm, .ref co])), (q, .inr (2, [.long w5h, .long w5l])), (up, .inr (2, [.long uh, .long ul])), (d, .inr (2, [.long w21h, .long w21l])), (lw, .inr (2, [.long vh, .long vl])), (r, .inr (2, [.long w13h, .long w13l])), (lm, .inr (2, [.long w39h, .long w39l]))] H := hP
  have hD : va_D A [(o, .inr (0, [.ref q, .ref r, .ref d, .ref lm, .ref co])), (q, .inr (2, [.long w5h, .long w5l])), (up, .inr (2, [.long uh, .long ul])), (d, .inr (2, [.long w21h, .long w21l])), (lw, .inr (2, [.long vh, .long vl])), (r, .inr (2, [.long w13h, .long w13l])), (lm, .inr (2, [.long w39h, .long w39l]))] := hD
  have em : wv w39h w39l = ((N / 2 : Nat) : Int) := by
    have e := congrArg (fun z : Int64 × Int64 => wv z.1 z.2) hc32
    dsimp only at e
    rw [hc39, e, er]; omega
  refine lv_iconst (v := 0) hx hb dX0_divideAmounts_42 (by decide) ?_
  refine lv_istore_n (lv' := [(3, .int 0), (0, .ref o), (1, .ref up), (2, .ref lw)]) hx hb dX0_divideAmounts_43 rfl hl (by decide) rfl (fun ls hl => ?_)
  have J77 : ∀ (k : Nat) (dh2 dl2 : Int64), k ≤ 127 → wv dh2 dl2 = ((M * 2 ^ k : Nat) : Int) → N < 2 * (M * 2 ^ k) → ∀ (H : Heap) (locs : List Loc), va_P D vwCl [(o, .inr (0, [.ref q, .ref r, .ref d, .ref lm, .ref co])), (q, .inr (2, [.long w5h, .long w5l])), (r, .inr (2, [.long w13h, .long w13l])), (d, .inr (2, [.long dh2, .long dl2])), (lm, .inr (2, [.long w39h, .long w39l])), (up, .inr (2, [.long uh, .long ul])), (lw, .inr (2, [.long vh, .long vl]))] H → va_D A [(o, .inr (0, [.ref q, .ref r, .ref d, .ref lm, .ref co])), (q, .inr (2, [.long w5h, .long w5l])), (r, .inr (2, [.long w13h, .long w13l])), (d, .inr (2, [.long dh2, .long dl2])), (lm, .inr (2, [.long w39h, .long w39l])), (up, .inr (2, [.long uh, .long ul])), (lw, .inr (2, [.long vh, .long vl]))] → va_S A s.heap H locs → ∀ (ls : Array Slot), lv_has ls 5 [(0, .ref o), (1, .ref up), (2, .ref lw), (3, .int (nI k))] → W p l e { frames := 2, cells := 0, slots := 0, locals := 44 } s m args below meth c H locs 0 0 Q (F0 m 77 ls []) := by
    intro k dh2 dl2 g2 g3 g4 H locs hP hD hS ls hl
    refine lv_iload_n hx hb dX0_divideAmounts_77 rfl (lv_at hl 3 rfl) ?_
    refine lv_istore (lv' := [(4, .int (nI k)), (0, .ref o), (1, .ref up), (2, .ref lw), (3, .int (nI k))]) hx hb dX0_divideAmounts_78 hl (by decide) rfl (fun ls hl => ?_)
    have L80 : ∀ (n80 : Nat) (j : Nat) (x4 : Int32) (qh2 ql2 rh2 rl2 dh3 dl3 : Int64) (Qn Rn : Nat), j ≤ 128 ∧ j < n80 → x4 = nI j - 1 → N = Qn * (M * 2 ^ j) + Rn → Rn < M * 2 ^ j → wv qh2 ql2 = (Qn : Int) → wv rh2 rl2 = (Rn : Int) → wv dh3 dl3 = ((M * 2 ^ (j - 1) : Nat) : Int) → ∀ (H : Heap) (locs : List Loc), va_P D vwCl [(o, .inr (0, [.ref q, .ref r, .ref d, .ref lm, .ref co])), (q, .inr (2, [.long qh2, .long ql2])), (r, .inr (2, [.long rh2, .long rl2])), (d, .inr (2, [.long dh3, .long dl3])), (lm, .inr (2, [.long w39h, .long w39l])), (up, .inr (2, [.long uh, .long ul])), (lw, .inr (2, [.long vh, .long vl]))] H → va_D A [(o, .inr (0, [.ref q, .ref r, .ref d, .ref lm, .ref co])), (q, .inr (2, [.long qh2, .long ql2])), (r, .inr (2, [.long rh2, .long rl2])), (d, .inr (2, [.long dh3, .long dl3])), (lm, .inr (2, [.long w39h, .long w39l])), (up, .inr (2, [.long uh, .long ul])), (lw, .inr (2, [.long vh, .long vl]))] → va_S A s.heap H locs → ∀ (ls : Array Slot), lv_has ls 5 [(0, .ref o), (1, .ref up), (2, .ref lw), (4, .int x4)] → W p l e { frames := 2, cells := 0, slots := 0, locals := 44 } s m args below meth c H locs 0 0 Q (F0 m 80 ls []) := by
      intro n80
      induction n80 with
      | zero =>
        intro j x4 qh2 ql2 rh2 rl2 dh3 dl3 Qn Rn b0 b1 b2 b3 b4 b5 b6
        exfalso; omega
      | succ n80 ih80 =>
        intro j x4 qh2 ql2 rh2 rl2 dh3 dl3 Qn Rn b0 b1 b2 b3 b4 b5 b6 H locs hP hD hS ls hl
        refine lv_iload hx hb dX0_divideAmounts_80 (lv_at hl 3 rfl) ?_
        refine lv_if_lt (tgt := 142) hx hb dX0_divideAmounts_82 (by decide) (fun c_82 => ?_) (fun c_82 => ?_)
        · exact hret hP hD hS ((qh2, ql2), (rh2, rl2), (dh3, dl3), (w39h, w39l)) (by have hj := ni_pt (by omega) b1 c_82; subst hj; obtain ⟨e1, e2⟩ := dv_end hM0 b2 b3; refine ⟨by rw [b4, e1], by rw [b5, e2], ?_⟩; rw [b6]; omega) [0, 1, 2, 3, 4, 5, 6] rfl (by decide) dX0_divideAmounts_142 (Nat.le_of_ble_eq_true rfl) (Nat.le_of_ble_eq_true rfl)
        · obtain ⟨i, rfl, ei⟩ := ni_pf (by omega) b1 c_82
          rw [Nat.add_sub_cancel] at b6
          refine lv_aload_n hx hb dX0_divideAmounts_85 rfl (lv_at hl 0 rfl) ?_
          refine va_get (D := D) (ci := 0) (v := .ref q) (C := RX0) (T := TX0) (N := 5) hx hb hTB tb_X0 hown hK.1 hP 0 rfl rfl 0 (by decide) (hTB _ tb_3_4) (fun _ h9 => h9) rfl dX0_divideAmounts_86 ?_
          refine fin_v (wr := [(o, .inr (0, [.ref q, .ref r, .ref d, .ref lm, .ref co])), (r, .inr (2, [.long rh2, .long rl2])), (d, .inr (2, [.long dh3, .long dl3])), (lm, .inr (2, [.long w39h, .long w39l])), (up, .inr (2, [.long uh, .long ul])), (lw, .inr (2, [.long vh, .long vl]))]) (va_runV (As := []) (rest := []) ⟨hx, hb, hml, hown, hTB⟩ (c_X2_twice l D cZ cI cJ q qh2 ql2 _) (cw_V hTB tb_11_23 tb_2_9 tb_11_20 tb_11_21 tb_11_22 nd_X2_twice rfl rfl ⟨Nat.le_of_ble_eq_true rfl, Nat.le_of_ble_eq_true rfl⟩) (pre_V (q0 := 1) hK hP hD [1] rfl rfl rfl rfl) rfl rfl hl.1 rfl (lv_room (Nat.le_of_ble_eq_true rfl)) dX0_divideAmounts_89 ⟨Nat.le_of_ble_eq_true rfl, Nat.le_of_ble_eq_true rfl⟩) hP hD hS hA [1] [0, 2, 3, 4, 5, 6] rfl rfl rfl (by decide) (fun u89 H locs hc89 hP hD hS => ?_)
          obtain ⟨w89h, w89l⟩ := u89
          try dsimp only at hc89
          have hP : va_P D vwCl [(o, .inr (0, [.ref q, .ref r, .ref d, .ref lm, .ref co])), (r, .inr (2, [.long rh2, .long rl2])), (d, .inr (2, [.long dh3, .long dl3])), (lm, .inr (2, [.long w39h, .long w39l])), (up, .inr (2, [.long uh, .long ul])), (lw, .inr (2, [.long vh, .long vl])), (q, .inr (2, [.long w89h, .long w89l]))] H := hP
          have hD : va_D A [(o, .inr (0, [.ref q, .ref r, .ref d, .ref lm, .ref co])), (r, .inr (2, [.long rh2, .long rl2])), (d, .inr (2, [.long dh3, .long dl3])), (lm, .inr (2, [.long w39h, .long w39l])), (up, .inr (2, [.long uh, .long ul])), (lw, .inr (2, [.long vh, .long vl])), (q, .inr (2, [.long w89h, .long w89l]))] := hD
          refine lv_aload_n hx hb dX0_divideAmounts_92 rfl (lv_at hl 0 rfl) ?_
          refine va_get (D := D) (ci := 0) (v := .ref d) (C := RX0) (T := TX0) (N := 5) hx hb hTB tb_X0 hown hK.1 hP 0 rfl rfl 2 (by decide) (hTB _ tb_3_6) (fun _ h9 => h9) rfl dX0_divideAmounts_93 ?_
          refine lv_aload_n hx hb dX0_divideAmounts_96 rfl (lv_at hl 0 rfl) ?_
          refine va_get (D := D) (ci := 0) (v := .ref r) (C := RX0) (T := TX0) (N := 5) hx hb hTB tb_X0 hown hK.1 hP 0 rfl rfl 1 (by decide) (hTB _ tb_3_5) (fun _ h9 => h9) rfl dX0_divideAmounts_97 ?_
          refine vp_callSi (va_runV (As := [.ref r]) (rest := []) ⟨hx, hb, hml, hown, hTB⟩ (c_X2_compare l D cZ cI cJ d r dh3 dl3 rh2 rl2) (cw_V hTB tb_9_22 tb_2_9 tb_11_15 tb_9_20 tb_9_21 nd_X2_compare rfl rfl ⟨Nat.le_of_ble_eq_true rfl, Nat.le_of_ble_eq_true rfl⟩) (prr_V (q0 := 2) hK hP [2, 1] rfl rfl rfl) rfl rfl hl.1 rfl (lv_room (Nat.le_of_ble_eq_true rfl)) dX0_divideAmounts_100 ⟨Nat.le_of_ble_eq_true rfl, Nat.le_of_ble_eq_true rfl⟩).run (fun r100 hc100 => ?_)
          subst hc100
          refine lv_if_gt (tgt := 124) hx hb dX0_divideAmounts_103 (by decide) (fun c_103 => ?_) (fun c_103 => ?_)
          · have c_103 := cm_gtt c_103
            refine lv_iload hx hb dX0_divideAmounts_124 (lv_at hl 3 rfl) ?_
            refine lv_if_le (tgt := 136) hx hb dX0_divideAmounts_126 (by decide) (fun c_126 => ?_) (fun c_126 => ?_)
            · obtain ⟨i4_1, ei4_1⟩ : ∃ y : Int32, y = x4 + (-1) := ⟨_, rfl⟩
              refine lv_iinc (v := i4_1) (lv' := [(4, .int i4_1), (0, .ref o), (1, .ref up), (2, .ref lw)]) hx hb dX0_divideAmounts_136 hl (k := 3) rfl (by rw [ei4_1]; rfl) (by decide) rfl (fun ls hl => ?_)
              refine lv_goto (tgt := 80) hx hb dX0_divideAmounts_139 (by decide) ?_
              refine ih80 i i4_1 w89h w89l rh2 rl2 dh3 dl3 (2 * Qn) Rn ?_ ?_ ?_ ?_ ?_ ?_ ?_ _ _ (hP.sub [0, 6, 1, 2, 3, 4, 5] rfl) (hD.sub [0, 6, 1, 2, 3, 4, 5] (by decide) rfl) hS _ (lv_sub hl [1, 2, 3, 0] rfl)
              · omega
              · rw [ei4_1, ei, ni_m]
              · exact dv_s0 b2
              · rw [b5, b6] at c_103; omega
              · have e2 : wv w89h w89l = 2 * (Qn : Int) := by rw [hc89 (by rw [b4]; have := dv_q hM0 b2; unfold In; omega), b4]
                rw [e2]; omega
              · exact b5
              · have hi : i = 0 := by
                  cases i with
                  | zero => rfl
                  | succ z => rw [ei] at c_126; exact absurd c_126 (nI_nle (by omega) (by omega))
                subst hi; exact b6
            · refine lv_aload_n hx hb dX0_divideAmounts_129 rfl (lv_at hl 0 rfl) ?_
              refine va_get (D := D) (ci := 0) (v := .ref d) (C := RX0) (T := TX0) (N := 5) hx hb hTB tb_X0 hown hK.1 hP 0 rfl rfl 2 (by decide) (hTB _ tb_3_6) (fun _ h9 => h9) rfl dX0_divideAmounts_130 ?_
              refine fin_v (wr := [(o, .inr (0, [.ref q, .ref r, .ref d, .ref lm, .ref co])), (r, .inr (2, [.long rh2, .long rl2])), (lm, .inr (2, [.long w39h, .long w39l])), (up, .inr (2, [.long uh, .long ul])), (lw, .inr (2, [.long vh, .long vl])), (q, .inr (2, [.long w89h, .long w89l]))]) (va_runV (As := []) (rest := []) ⟨hx, hb, hml, hown, hTB⟩ (c_X2_half l D cZ cI cJ d dh3 dl3 _) (cw_V hTB tb_11_10 tb_2_9 tb_11_7 tb_11_8 tb_11_9 nd_X2_half rfl rfl ⟨Nat.le_of_ble_eq_true rfl, Nat.le_of_ble_eq_true rfl⟩) (pre_V (q0 := 2) hK hP hD [2] rfl rfl rfl rfl) rfl rfl hl.1 rfl (lv_room (Nat.le_of_ble_eq_true rfl)) dX0_divideAmounts_133 ⟨Nat.le_of_ble_eq_true rfl, Nat.le_of_ble_eq_true rfl⟩) hP hD hS hA [2] [0, 1, 3, 4, 5, 6] rfl rfl rfl (by decide) (fun u133 H locs hc133 hP hD hS => ?_)
              obtain ⟨w133h, w133l⟩ := u133
              try dsimp only at hc133
              have hP : va_P D vwCl [(o, .inr (0, [.ref q, .ref r, .ref d, .ref lm, .ref co])), (r, .inr (2, [.long rh2, .long rl2])), (lm, .inr (2, [.long w39h, .long w39l])), (up, .inr (2, [.long uh, .long ul])), (lw, .inr (2, [.long vh, .long vl])), (q, .inr (2, [.long w89h, .long w89l])), (d, .inr (2, [.long w133h, .long w133l]))] H := hP
              have hD : va_D A [(o, .inr (0, [.ref q, .ref r, .ref d, .ref lm, .ref co])), (r, .inr (2, [.long rh2, .long rl2])), (lm, .inr (2, [.long w39h, .long w39l])), (up, .inr (2, [.long uh, .long ul])), (lw, .inr (2, [.long vh, .long vl])), (q, .inr (2, [.long w89h, .long w89l])), (d, .inr (2, [.long w133h, .long w133l]))] := hD
              obtain ⟨i4_2, ei4_2⟩ : ∃ y : Int32, y = x4 + (-1) := ⟨_, rfl⟩
              refine lv_iinc (v := i4_2) (lv' := [(4, .int i4_2), (0, .ref o), (1, .ref up), (2, .ref lw)]) hx hb dX0_divideAmounts_136 hl (k := 3) rfl (by rw [ei4_2]; rfl) (by decide) rfl (fun ls hl => ?_)
              refine lv_goto (tgt := 80) hx hb dX0_divideAmounts_139 (by decide) ?_
              refine ih80 i i4_2 w89h w89l rh2 rl2 w133h w133l (2 * Qn) Rn ?_ ?_ ?_ ?_ ?_ ?_ ?_ _ _ (hP.sub [0, 5, 1, 6, 2, 3, 4] rfl) (hD.sub [0, 5, 1, 6, 2, 3, 4] (by decide) rfl) hS _ (lv_sub hl [1, 2, 3, 0] rfl)
              · omega
              · rw [ei4_2, ei, ni_m]
              · exact dv_s0 b2
              · rw [b5, b6] at c_103; omega
              · have e2 : wv w89h w89l = 2 * (Qn : Int) := by rw [hc89 (by rw [b4]; have := dv_q hM0 b2; unfold In; omega), b4]
                rw [e2]; omega
              · exact b5
              · rw [hc133, b6]
                have hi : ¬ i = 0 := fun q => c_126 (by rw [ei, q]; decide)
                obtain ⟨z, rfl⟩ : ∃ z, i = z + 1 := ⟨i - 1, by omega⟩
                rw [pw_s, Nat.add_sub_cancel]
                omega
          · have c_103 := cm_gtf c_103
            refine lv_aload_n hx hb dX0_divideAmounts_106 rfl (lv_at hl 0 rfl) ?_
            refine va_get (D := D) (ci := 0) (v := .ref r) (C := RX0) (T := TX0) (N := 5) hx hb hTB tb_X0 hown hK.1 hP 0 rfl rfl 1 (by decide) (hTB _ tb_3_5) (fun _ h9 => h9) rfl dX0_divideAmounts_107 ?_
            refine lv_aload_n hx hb dX0_divideAmounts_110 rfl (lv_at hl 0 rfl) ?_
            refine va_get (D := D) (ci := 0) (v := .ref d) (C := RX0) (T := TX0) (N := 5) hx hb hTB tb_X0 hown hK.1 hP 0 rfl rfl 2 (by decide) (hTB _ tb_3_6) (fun _ h9 => h9) rfl dX0_divideAmounts_111 ?_
            refine fin_v (wr := [(o, .inr (0, [.ref q, .ref r, .ref d, .ref lm, .ref co])), (lm, .inr (2, [.long w39h, .long w39l])), (up, .inr (2, [.long uh, .long ul])), (lw, .inr (2, [.long vh, .long vl])), (q, .inr (2, [.long w89h, .long w89l]))]) (va_runV (As := [.ref d]) (rest := []) ⟨hx, hb, hml, hown, hTB⟩ (c_X2_subtract l D cZ cI cJ r d rh2 rl2 dh3 dl3 _) (cw_V hTB tb_11_19 tb_2_9 tb_11_16 tb_11_17 tb_11_18 nd_X2_subtract rfl rfl ⟨Nat.le_of_ble_eq_true rfl, Nat.le_of_ble_eq_true rfl⟩) (pre_V (q0 := 1) hK hP hD [1, 2] rfl rfl rfl rfl) rfl rfl hl.1 rfl (lv_room (Nat.le_of_ble_eq_true rfl)) dX0_divideAmounts_114 ⟨Nat.le_of_ble_eq_true rfl, Nat.le_of_ble_eq_true rfl⟩) hP hD hS hA [1, 2] [0, 3, 4, 5, 6] rfl rfl rfl (by decide) (fun u114 H locs hc114 hP hD hS => ?_)
            obtain ⟨w114h, w114l⟩ := u114
            try dsimp only at hc114
            have hP : va_P D vwCl [(o, .inr (0, [.ref q, .ref r, .ref d, .ref lm, .ref co])), (lm, .inr (2, [.long w39h, .long w39l])), (up, .inr (2, [.long uh, .long ul])), (lw, .inr (2, [.long vh, .long vl])), (q, .inr (2, [.long w89h, .long w89l])), (r, .inr (2, [.long w114h, .long w114l])), (d, .inr (2, [.long dh3, .long dl3]))] H := hP
            have hD : va_D A [(o, .inr (0, [.ref q, .ref r, .ref d, .ref lm, .ref co])), (lm, .inr (2, [.long w39h, .long w39l])), (up, .inr (2, [.long uh, .long ul])), (lw, .inr (2, [.long vh, .long vl])), (q, .inr (2, [.long w89h, .long w89l])), (r, .inr (2, [.long w114h, .long w114l])), (d, .inr (2, [.long dh3, .long dl3]))] := hD
            refine lv_aload_n hx hb dX0_divideAmounts_117 rfl (lv_at hl 0 rfl) ?_
            refine va_get (D := D) (ci := 0) (v := .ref q) (C := RX0) (T := TX0) (N := 5) hx hb hTB tb_X0 hown hK.1 hP 0 rfl rfl 0 (by decide) (hTB _ tb_3_4) (fun _ h9 => h9) rfl dX0_divideAmounts_118 ?_
            refine fin_v (wr := [(o, .inr (0, [.ref q, .ref r, .ref d, .ref lm, .ref co])), (lm, .inr (2, [.long w39h, .long w39l])), (up, .inr (2, [.long uh, .long ul])), (lw, .inr (2, [.long vh, .long vl])), (r, .inr (2, [.long w114h, .long w114l])), (d, .inr (2, [.long dh3, .long dl3]))]) (va_runV (As := []) (rest := []) ⟨hx, hb, hml, hown, hTB⟩ (c_X2_setLowestBit l D cZ cI cJ q w89h w89l _) (cw_V hTB tb_12_16 tb_2_9 tb_12_13 tb_12_14 tb_12_15 nd_X2_setLowestBit rfl rfl ⟨Nat.le_of_ble_eq_true rfl, Nat.le_of_ble_eq_true rfl⟩) (pre_V (q0 := 4) hK hP hD [4] rfl rfl rfl rfl) rfl rfl hl.1 rfl (lv_room (Nat.le_of_ble_eq_true rfl)) dX0_divideAmounts_121 ⟨Nat.le_of_ble_eq_true rfl, Nat.le_of_ble_eq_true rfl⟩) hP hD hS hA [4] [0, 1, 2, 3, 5, 6] rfl rfl rfl (by decide) (fun u121 H locs hc121 hP hD hS => ?_)
            obtain ⟨w121h, w121l⟩ := u121
            try dsimp only at hc121
            have hP : va_P D vwCl [(o, .inr (0, [.ref q, .ref r, .ref d, .ref lm, .ref co])), (lm, .inr (2, [.long w39h, .long w39l])), (up, .inr (2, [.long uh, .long ul])), (lw, .inr (2, [.long vh, .long vl])), (r, .inr (2, [.long w114h, .long w114l])), (d, .inr (2, [.long dh3, .long dl3])), (q, .inr (2, [.long w121h, .long w121l]))] H := hP
            have hD : va_D A [(o, .inr (0, [.ref q, .ref r, .ref d, .ref lm, .ref co])), (lm, .inr (2, [.long w39h, .long w39l])), (up, .inr (2, [.long uh, .long ul])), (lw, .inr (2, [.long vh, .long vl])), (r, .inr (2, [.long w114h, .long w114l])), (d, .inr (2, [.long dh3, .long dl3])), (q, .inr (2, [.long w121h, .long w121l]))] := hD
            refine lv_iload hx hb dX0_divideAmounts_124 (lv_at hl 3 rfl) ?_
            refine lv_if_le (tgt := 136) hx hb dX0_divideAmounts_126 (by decide) (fun c_126 => ?_) (fun c_126 => ?_)
            · obtain ⟨i4_3, ei4_3⟩ : ∃ y : Int32, y = x4 + (-1) := ⟨_, rfl⟩
              refine lv_iinc (v := i4_3) (lv' := [(4, .int i4_3), (0, .ref o), (1, .ref up), (2, .ref lw)]) hx hb dX0_divideAmounts_136 hl (k := 3) rfl (by rw [ei4_3]; rfl) (by decide) rfl (fun ls hl => ?_)
              refine lv_goto (tgt := 80) hx hb dX0_divideAmounts_139 (by decide) ?_
              refine ih80 i i4_3 w121h w121l w114h w114l dh3 dl3 (2 * Qn + 1) (Rn - M * 2 ^ i) ?_ ?_ ?_ ?_ ?_ ?_ ?_ _ _ (hP.sub [0, 6, 4, 5, 1, 2, 3] rfl) (hD.sub [0, 6, 4, 5, 1, 2, 3] (by decide) rfl) hS _ (lv_sub hl [1, 2, 3, 0] rfl)
              · omega
              · rw [ei4_3, ei, ni_m]
              · rw [b5, b6] at c_103; exact dv_s1 b2 (by omega)
              · rw [b5, b6] at c_103; have := pw_s M i; omega
              · have e2 : wv w89h w89l = 2 * (Qn : Int) := by rw [hc89 (by rw [b4]; have := dv_q hM0 b2; unfold In; omega), b4]
                rw [hc121, e2]; omega
              · rw [b5, b6] at c_103; rw [hc114 (by rw [b5, b6]; unfold In; omega), b5, b6]; omega
              · have hi : i = 0 := by
                  cases i with
                  | zero => rfl
                  | succ z => rw [ei] at c_126; exact absurd c_126 (nI_nle (by omega) (by omega))
                subst hi; exact b6
            · refine lv_aload_n hx hb dX0_divideAmounts_129 rfl (lv_at hl 0 rfl) ?_
              refine va_get (D := D) (ci := 0) (v := .ref d) (C := RX0) (T := TX0) (N := 5) hx hb hTB tb_X0 hown hK.1 hP 0 rfl rfl 2 (by decide) (hTB _ tb_3_6) (fun _ h9 => h9) rfl dX0_divideAmounts_130 ?_
              refine fin_v (wr := [(o, .inr (0, [.ref q, .ref r, .ref d, .ref lm, .ref co])), (lm, .inr (2, [.long w39h, .long w39l])), (up, .inr (2, [.long uh, .long ul])), (lw, .inr (2, [.long vh, .long vl])), (r, .inr (2, [.long w114h, .long w114l])), (q, .inr (2, [.long w121h, .long w121l]))]) (va_runV (As := []) (rest := []) ⟨hx, hb, hml, hown, hTB⟩ (c_X2_half l D cZ cI cJ d dh3 dl3 _) (cw_V hTB tb_11_10 tb_2_9 tb_11_7 tb_11_8 tb_11_9 nd_X2_half rfl rfl ⟨Nat.le_of_ble_eq_true rfl, Nat.le_of_ble_eq_true rfl⟩) (pre_V (q0 := 5) hK hP hD [5] rfl rfl rfl rfl) rfl rfl hl.1 rfl (lv_room (Nat.le_of_ble_eq_true rfl)) dX0_divideAmounts_133 ⟨Nat.le_of_ble_eq_true rfl, Nat.le_of_ble_eq_true rfl⟩) hP hD hS hA [5] [0, 1, 2, 3, 4, 6] rfl rfl rfl (by decide) (fun u133 H locs hc133 hP hD hS => ?_)
              obtain ⟨w133h, w133l⟩ := u133
              try dsimp only at hc133
              have hP : va_P D vwCl [(o, .inr (0, [.ref q, .ref r, .ref d, .ref lm, .ref co])), (lm, .inr (2, [.long w39h, .long w39l])), (up, .inr (2, [.long uh, .long ul])), (lw, .inr (2, [.long vh, .long vl])), (r, .inr (2, [.long w114h, .long w114l])), (q, .inr (2, [.long w121h, .long w121l])), (d, .inr (2, [.long w133h, .long w133l]))] H := hP
              have hD : va_D A [(o, .inr (0, [.ref q, .ref r, .ref d, .ref lm, .ref co])), (lm, .inr (2, [.long w39h, .long w39l])), (up, .inr (2, [.long uh, .long ul])), (lw, .inr (2, [.long vh, .long vl])), (r, .inr (2, [.long w114h, .long w114l])), (q, .inr (2, [.long w121h, .long w121l])), (d, .inr (2, [.long w133h, .long w133l]))] := hD
              obtain ⟨i4_4, ei4_4⟩ : ∃ y : Int32, y = x4 + (-1) := ⟨_, rfl⟩
              refine lv_iinc (v := i4_4) (lv' := [(4, .int i4_4), (0, .ref o), (1, .ref up), (2, .ref lw)]) hx hb dX0_divideAmounts_136 hl (k := 3) rfl (by rw [ei4_4]; rfl) (by decide) rfl (fun ls hl => ?_)
              refine lv_goto (tgt := 80) hx hb dX0_divideAmounts_139 (by decide) ?_
              refine ih80 i i4_4 w121h w121l w114h w114l w133h w133l (2 * Qn + 1) (Rn - M * 2 ^ i) ?_ ?_ ?_ ?_ ?_ ?_ ?_ _ _ (hP.sub [0, 5, 4, 6, 1, 2, 3] rfl) (hD.sub [0, 5, 4, 6, 1, 2, 3] (by decide) rfl) hS _ (lv_sub hl [1, 2, 3, 0] rfl)
              · omega
              · rw [ei4_4, ei, ni_m]
              · rw [b5, b6] at c_103; exact dv_s1 b2 (by omega)
              · rw [b5, b6] at c_103; have := pw_s M i; omega
              · have e2 : wv w89h w89l = 2 * (Qn : Int) := by rw [hc89 (by rw [b4]; have := dv_q hM0 b2; unfold In; omega), b4]
                rw [hc121, e2]; omega
              · rw [b5, b6] at c_103; rw [hc114 (by rw [b5, b6]; unfold In; omega), b5, b6]; omega
              · rw [hc133, b6]
                have hi : ¬ i = 0 := fun q => c_126 (by rw [ei, q]; decide)
                obtain ⟨z, rfl⟩ : ∃ z, i = z + 1 := ⟨i - 1, by omega⟩
                rw [pw_s, Nat.add_sub_cancel]
                omega
    refine L80 130 (k + 1) (nI k) w5h w5l w13h w13l dh2 dl2 0 N ?_ ?_ ?_ ?_ ?_ ?_ ?_ _ _ hP hD hS _ (lv_sub hl [1, 2, 3, 0] rfl)
    · omega
    · rw [nI_pred]
    · omega
    · rw [pw_s]; exact g4
    · exact hc5
    · exact er
    · rw [Nat.add_sub_cancel]; exact g3
  have L44 : ∀ (n44 : Nat) (k : Nat) (dh2 dl2 : Int64), 127 < k + n44 → k ≤ 127 → wv dh2 dl2 = ((M * 2 ^ k : Nat) : Int) → ∀ (H : Heap) (locs : List Loc), va_P D vwCl [(o, .inr (0, [.ref q, .ref r, .ref d, .ref lm, .ref co])), (q, .inr (2, [.long w5h, .long w5l])), (r, .inr (2, [.long w13h, .long w13l])), (d, .inr (2, [.long dh2, .long dl2])), (lm, .inr (2, [.long w39h, .long w39l])), (up, .inr (2, [.long uh, .long ul])), (lw, .inr (2, [.long vh, .long vl]))] H → va_D A [(o, .inr (0, [.ref q, .ref r, .ref d, .ref lm, .ref co])), (q, .inr (2, [.long w5h, .long w5l])), (r, .inr (2, [.long w13h, .long w13l])), (d, .inr (2, [.long dh2, .long dl2])), (lm, .inr (2, [.long w39h, .long w39l])), (up, .inr (2, [.long uh, .long ul])), (lw, .inr (2, [.long vh, .long vl]))] → va_S A s.heap H locs → ∀ (ls : Array Slot), lv_has ls 5 [(0, .ref o), (1, .ref up), (2, .ref lw), (3, .int (nI k))] → W p l e { frames := 2, cells := 0, slots := 0, locals := 44 } s m args below meth c H locs 0 0 Q (F0 m 44 ls []) := by
    intro n44
    induction n44 with
    | zero =>
      intro k dh2 dl2 g1 g2 g3
      exfalso; omega
    | succ n44 ih44 =>
      intro k dh2 dl2 g1 g2 g3 H locs hP hD hS ls hl
      refine lv_iload_n hx hb dX0_divideAmounts_44 rfl (lv_at hl 3 rfl) ?_
      refine lv_bipush (v := 127) hx hb dX0_divideAmounts_45 (by decide) ?_
      refine lv_icmp_ge (tgt := 77) hx hb dX0_divideAmounts_47 (by decide) (fun c_47 => ?_) (fun c_47 => ?_)
      · refine J77 k dh2 dl2 ?_ ?_ ?_ _ _ hP hD hS _ (lv_sub hl [0, 1, 2, 3] rfl)
        · exact g2
        · exact g3
        · have := pw_ge hM0 k
          have e : k = 127 := by have := (nI_leI (a := 127) (b := k) (by omega) (by omega)).mp c_47; omega
          subst e
          omega
      · refine lv_aload_n hx hb dX0_divideAmounts_50 rfl (lv_at hl 0 rfl) ?_
        refine va_get (D := D) (ci := 0) (v := .ref d) (C := RX0) (T := TX0) (N := 5) hx hb hTB tb_X0 hown hK.1 hP 0 rfl rfl 2 (by decide) (hTB _ tb_3_6) (fun _ h9 => h9) rfl dX0_divideAmounts_51 ?_
        refine lv_aload_n hx hb dX0_divideAmounts_54 rfl (lv_at hl 0 rfl) ?_
        refine va_get (D := D) (ci := 0) (v := .ref lm) (C := RX0) (T := TX0) (N := 5) hx hb hTB tb_X0 hown hK.1 hP 0 rfl rfl 3 (by decide) (hTB _ tb_3_7) (fun _ h9 => h9) rfl dX0_divideAmounts_55 ?_
        refine vp_callSi (va_runV (As := [.ref lm]) (rest := []) ⟨hx, hb, hml, hown, hTB⟩ (c_X2_compare l D cZ cI cJ d lm dh2 dl2 w39h w39l) (cw_V hTB tb_9_22 tb_2_9 tb_11_15 tb_9_20 tb_9_21 nd_X2_compare rfl rfl ⟨Nat.le_of_ble_eq_true rfl, Nat.le_of_ble_eq_true rfl⟩) (prr_V (q0 := 3) hK hP [3, 4] rfl rfl rfl) rfl rfl hl.1 rfl (lv_room (Nat.le_of_ble_eq_true rfl)) dX0_divideAmounts_58 ⟨Nat.le_of_ble_eq_true rfl, Nat.le_of_ble_eq_true rfl⟩).run (fun r58 hc58 => ?_)
        subst hc58
        refine lv_if_gt (tgt := 77) hx hb dX0_divideAmounts_61 (by decide) (fun c_61 => ?_) (fun c_61 => ?_)
        · have c_61 := cm_gtt c_61
          refine J77 k dh2 dl2 ?_ ?_ ?_ _ _ hP hD hS _ (lv_sub hl [0, 1, 2, 3] rfl)
          · exact g2
          · exact g3
          · rw [g3, em] at c_61; omega
        · have c_61 := cm_gtf c_61
          refine lv_aload_n hx hb dX0_divideAmounts_64 rfl (lv_at hl 0 rfl) ?_
          refine va_get (D := D) (ci := 0) (v := .ref d) (C := RX0) (T := TX0) (N := 5) hx hb hTB tb_X0 hown hK.1 hP 0 rfl rfl 2 (by decide) (hTB _ tb_3_6) (fun _ h9 => h9) rfl dX0_divideAmounts_65 ?_
          refine fin_v (wr := [(o, .inr (0, [.ref q, .ref r, .ref d, .ref lm, .ref co])), (q, .inr (2, [.long w5h, .long w5l])), (r, .inr (2, [.long w13h, .long w13l])), (lm, .inr (2, [.long w39h, .long w39l])), (up, .inr (2, [.long uh, .long ul])), (lw, .inr (2, [.long vh, .long vl]))]) (va_runV (As := []) (rest := []) ⟨hx, hb, hml, hown, hTB⟩ (c_X2_twice l D cZ cI cJ d dh2 dl2 _) (cw_V hTB tb_11_23 tb_2_9 tb_11_20 tb_11_21 tb_11_22 nd_X2_twice rfl rfl ⟨Nat.le_of_ble_eq_true rfl, Nat.le_of_ble_eq_true rfl⟩) (pre_V (q0 := 3) hK hP hD [3] rfl rfl rfl rfl) rfl rfl hl.1 rfl (lv_room (Nat.le_of_ble_eq_true rfl)) dX0_divideAmounts_68 ⟨Nat.le_of_ble_eq_true rfl, Nat.le_of_ble_eq_true rfl⟩) hP hD hS hA [3] [0, 1, 2, 4, 5, 6] rfl rfl rfl (by decide) (fun u68 H locs hc68 hP hD hS => ?_)
          obtain ⟨w68h, w68l⟩ := u68
          try dsimp only at hc68
          have hP : va_P D vwCl [(o, .inr (0, [.ref q, .ref r, .ref d, .ref lm, .ref co])), (q, .inr (2, [.long w5h, .long w5l])), (r, .inr (2, [.long w13h, .long w13l])), (lm, .inr (2, [.long w39h, .long w39l])), (up, .inr (2, [.long uh, .long ul])), (lw, .inr (2, [.long vh, .long vl])), (d, .inr (2, [.long w68h, .long w68l]))] H := hP
          have hD : va_D A [(o, .inr (0, [.ref q, .ref r, .ref d, .ref lm, .ref co])), (q, .inr (2, [.long w5h, .long w5l])), (r, .inr (2, [.long w13h, .long w13l])), (lm, .inr (2, [.long w39h, .long w39l])), (up, .inr (2, [.long uh, .long ul])), (lw, .inr (2, [.long vh, .long vl])), (d, .inr (2, [.long w68h, .long w68l]))] := hD
          obtain ⟨i3_5, ei3_5⟩ : ∃ y : Int32, y = (nI k) + 1 := ⟨_, rfl⟩
          refine lv_iinc (v := i3_5) (lv' := [(3, .int i3_5), (0, .ref o), (1, .ref up), (2, .ref lw)]) hx hb dX0_divideAmounts_71 hl (k := 3) rfl (by rw [ei3_5]; rfl) (by decide) rfl (fun ls hl => ?_)
          refine lv_goto (tgt := 44) hx hb dX0_divideAmounts_74 (by decide) ?_
          have q9 : i3_5 = nI (k + 1) := by rw [ei3_5]; exact nI_1 k
          subst q9
          refine ih44 (k + 1) w68h w68l ?_ ?_ ?_ _ _ (hP.sub [0, 1, 2, 6, 3, 4, 5] rfl) (hD.sub [0, 1, 2, 6, 3, 4, 5] (by decide) rfl) hS _ (lv_sub hl [1, 2, 3, 0] rfl)
          · omega
          · have := (nI_leI (a := 127) (b := k) (by omega) (by omega)).mpr; have : ¬ 127 ≤ k := fun q => c_47 (this q); omega
          · rw [hc68 (by rw [g3, em] at c_61; rw [g3]; unfold In; omega), g3, pw_s]; omega
  refine L44 128 0 w21h w21l ?_ ?_ ?_ _ _ (hP.sub [0, 1, 5, 3, 6, 2, 4] rfl) (hD.sub [0, 1, 5, 3, 6, 2, 4] (by decide) rfl) hS _ (lv_sub hl [1, 2, 3, 0] rfl)
  · omega
  · omega
  · rw [Nat.pow_zero, Nat.mul_one]; exact ed

set_option maxHeartbeats 4000000 in
set_option maxRecDepth 100000 in
theorem c_X0_isOneMoreNearer (l : Launch) (D : va_G) (cZ cI cJ : ClassId) (o q r d lm co : Nat) (qh ql rh rl dh dl : Int64) (rule : Int32) (Qn Rn Mn : Nat) (hQ : wv qh ql = (Qn : Int)) (hR : wv rh rl = (Rn : Int)) (hM : wv dh dl = (Mn : Int)) (hR1 : 2 * Rn < 170141183460469231731687303715884105728) : Ci l D cZ cI cJ yX0_isOneMoreNearer cX0_isOneMoreNearer 3 (some .boolean) { frames := 2, cells := 0, slots := 0, locals := 44 } [.ref o, .int rule] [(o, .inr (0, [.ref q, .ref r, .ref d, .ref lm, .ref co])), (q, .inr (2, [.long qh, .long ql])), (r, .inr (2, [.long rh, .long rl])), (d, .inr (2, [.long dh, .long dl]))] (S := Int64 × Int64) (fun z u => z = bz (mN rule Qn Rn Mn = true)) (fun u => [(o, .inr (0, [.ref q, .ref r, .ref d, .ref lm, .ref co])), (q, .inr (2, [.long qh, .long ql])), (r, .inr (2, [.long u.1, .long u.2])), (d, .inr (2, [.long dh, .long dl]))]) := by
  refine Ci.of (by decide) ?_
  intro p e s m args below meth c A Q hB hret hP hD hA
  obtain ⟨hx, hb, hr, hlocks, hml, hown, hnm, hTB, hK⟩ := hB
  have hown : s.vm.findClass RX0 = some m.cls := hown
  have hS : va_S A s.heap s.heap [] := va_S.rf
  have hl := lv_entry ([.ref o, .int rule]) (n := 3) (Nat.le_of_ble_eq_true rfl)
  rw [lg_entry_eq]
  generalize (lg_sl ([.ref o, .int rule]) ++ List.replicate (3 - (lg_sl ([.ref o, .int rule])).length) Slot.unset).toArray = ls at hl ⊢
  have hl : lv_has ls 3 [(0, .ref o), (1, .int rule)] := hl
  refine lv_aload_n hx hb dX0_isOneMoreNearer_0 rfl (lv_at hl 0 rfl) ?_
  refine va_get (D := D) (ci := 0) (v := .ref r) (C := RX0) (T := TX0) (N := 5) hx hb hTB tb_X0 hown hK.1 hP 0 rfl rfl 1 (by decide) (hTB _ tb_3_5) (fun _ h9 => h9) rfl dX0_isOneMoreNearer_1 ?_
  refine fin_v (wr := [(o, .inr (0, [.ref q, .ref r, .ref d, .ref lm, .ref co])), (q, .inr (2, [.long qh, .long ql])), (d, .inr (2, [.long dh, .long dl]))]) (va_runV (As := []) (rest := []) ⟨hx, hb, hml, hown, hTB⟩ (c_X2_twice l D cZ cI cJ r rh rl _) (cw_V hTB tb_11_23 tb_2_9 tb_11_20 tb_11_21 tb_11_22 nd_X2_twice rfl rfl ⟨Nat.le_of_ble_eq_true rfl, Nat.le_of_ble_eq_true rfl⟩) (pre_V (q0 := 2) hK hP hD [2] rfl rfl rfl rfl) rfl rfl hl.1 rfl (lv_room (Nat.le_of_ble_eq_true rfl)) dX0_isOneMoreNearer_4 ⟨Nat.le_of_ble_eq_true rfl, Nat.le_of_ble_eq_true rfl⟩) hP hD hS hA [2] [0, 1, 3] rfl rfl rfl (by decide) (fun u4 H locs hc4 hP hD hS => ?_)
  obtain ⟨w4h, w4l⟩ := u4
  try dsimp only at hc4
  have hP : va_P D vwCl [(o, .inr (0, [.ref q, .ref r, .ref d, .ref lm, .ref co])), (q, .inr (2, [.long qh, .long ql])), (d, .inr (2, [.long dh, .long dl])), (r, .inr (2, [.long w4h, .long w4l]))] H := hP
  have hD : va_D A [(o, .inr (0, [.ref q, .ref r, .ref d, .ref lm, .ref co])), (q, .inr (2, [.long qh, .long ql])), (d, .inr (2, [.long dh, .long dl])), (r, .inr (2, [.long w4h, .long w4l]))] := hD
  refine lv_aload_n hx hb dX0_isOneMoreNearer_7 rfl (lv_at hl 0 rfl) ?_
  refine va_get (D := D) (ci := 0) (v := .ref r) (C := RX0) (T := TX0) (N := 5) hx hb hTB tb_X0 hown hK.1 hP 0 rfl rfl 1 (by decide) (hTB _ tb_3_5) (fun _ h9 => h9) rfl dX0_isOneMoreNearer_8 ?_
  refine lv_aload_n hx hb dX0_isOneMoreNearer_11 rfl (lv_at hl 0 rfl) ?_
  refine va_get (D := D) (ci := 0) (v := .ref d) (C := RX0) (T := TX0) (N := 5) hx hb hTB tb_X0 hown hK.1 hP 0 rfl rfl 2 (by decide) (hTB _ tb_3_6) (fun _ h9 => h9) rfl dX0_isOneMoreNearer_12 ?_
  refine vp_callSi (va_runV (As := [.ref d]) (rest := []) ⟨hx, hb, hml, hown, hTB⟩ (c_X2_compare l D cZ cI cJ r d w4h w4l dh dl) (cw_V hTB tb_9_22 tb_2_9 tb_11_15 tb_9_20 tb_9_21 nd_X2_compare rfl rfl ⟨Nat.le_of_ble_eq_true rfl, Nat.le_of_ble_eq_true rfl⟩) (prr_V (q0 := 3) hK hP [3, 2] rfl rfl rfl) rfl rfl hl.1 rfl (lv_room (Nat.le_of_ble_eq_true rfl)) dX0_isOneMoreNearer_15 ⟨Nat.le_of_ble_eq_true rfl, Nat.le_of_ble_eq_true rfl⟩).run (fun r15 hc15 => ?_)
  subst hc15
  refine lv_istore_n (lv' := [(2, .int (cm (wv w4h w4l) (wv dh dl))), (0, .ref o), (1, .int rule)]) hx hb dX0_isOneMoreNearer_18 rfl hl (by decide) rfl (fun ls hl => ?_)
  refine lv_iload_n hx hb dX0_isOneMoreNearer_19 rfl (lv_at hl 0 rfl) ?_
  refine lv_if_eq (tgt := 33) hx hb dX0_isOneMoreNearer_20 (by decide) (fun c_20 => ?_) (fun c_20 => ?_)
  · have c_20 := cm_eqt c_20
    refine lv_iload_n hx hb dX0_isOneMoreNearer_33 rfl (lv_at hl 2 rfl) ?_
    refine lv_iconst (v := 4) hx hb dX0_isOneMoreNearer_34 (by decide) ?_
    refine lv_icmp_eq (tgt := 54) hx hb dX0_isOneMoreNearer_35 (by decide) (fun c_35 => ?_) (fun c_35 => ?_)
    · refine lv_iconst (v := 1) hx hb dX0_isOneMoreNearer_54 (by decide) ?_
      refine lv_goto (tgt := 59) hx hb dX0_isOneMoreNearer_55 (by decide) ?_
      exact hret hP hD hS rfl (w4h, w4l) (by have e := hc4 (by rw [hR]; unfold In; omega); rw [hR] at e; rw [e, hM] at c_20; exact bz_t (mN_iff.mpr (Or.inr ⟨by omega, Or.inl c_35⟩))) [0, 1, 3, 2] rfl (by decide) dX0_isOneMoreNearer_59 (Nat.le_of_ble_eq_true rfl) (Nat.le_of_ble_eq_true rfl)
    · refine lv_iload_n hx hb dX0_isOneMoreNearer_38 rfl (lv_at hl 2 rfl) ?_
      refine lv_bipush (v := 6) hx hb dX0_isOneMoreNearer_39 (by decide) ?_
      refine lv_icmp_ne (tgt := 58) hx hb dX0_isOneMoreNearer_41 (by decide) (fun c_41 => ?_) (fun c_41 => ?_)
      · refine lv_iconst (v := 0) hx hb dX0_isOneMoreNearer_58 (by decide) ?_
        exact hret hP hD hS rfl (w4h, w4l) (by have e := hc4 (by rw [hR]; unfold In; omega); rw [hR] at e; rw [e, hM] at c_20; exact bz_f (fun q => by rcases mN_iff.mp q with z | ⟨-, z | ⟨z, -⟩⟩; omega; exact c_35 z; exact c_41 z)) [0, 1, 3, 2] rfl (by decide) dX0_isOneMoreNearer_59 (Nat.le_of_ble_eq_true rfl) (Nat.le_of_ble_eq_true rfl)
      · refine lv_aload_n hx hb dX0_isOneMoreNearer_44 rfl (lv_at hl 1 rfl) ?_
        refine va_get (D := D) (ci := 0) (v := .ref q) (C := RX0) (T := TX0) (N := 5) hx hb hTB tb_X0 hown hK.1 hP 0 rfl rfl 0 (by decide) (hTB _ tb_3_4) (fun _ h9 => h9) rfl dX0_isOneMoreNearer_45 ?_
        refine vp_callSi (va_runV (As := []) (rest := []) ⟨hx, hb, hml, hown, hTB⟩ (c_X2_isOdd l D cZ cI cJ q qh ql) (cw_V hTB tb_11_6 tb_2_9 tb_11_3 tb_11_4 tb_11_5 nd_X2_isOdd rfl rfl ⟨Nat.le_of_ble_eq_true rfl, Nat.le_of_ble_eq_true rfl⟩) (prr_V (q0 := 1) hK hP [1] rfl rfl rfl) rfl rfl hl.1 rfl (lv_room (Nat.le_of_ble_eq_true rfl)) dX0_isOneMoreNearer_48 ⟨Nat.le_of_ble_eq_true rfl, Nat.le_of_ble_eq_true rfl⟩).run (fun r48 hc48 => ?_)
        subst hc48
        refine lv_if_eq (tgt := 58) hx hb dX0_isOneMoreNearer_51 (by decide) (fun c_51 => ?_) (fun c_51 => ?_)
        · have c_51 := bz_0 c_51
          refine lv_iconst (v := 0) hx hb dX0_isOneMoreNearer_58 (by decide) ?_
          exact hret hP hD hS rfl (w4h, w4l) (by have e := hc4 (by rw [hR]; unfold In; omega); rw [hR] at e; rw [e, hM] at c_20; rw [hQ] at c_51; exact bz_f (fun q => by rcases mN_iff.mp q with z | ⟨-, z | ⟨-, z⟩⟩; omega; exact c_35 z; exact c_51 (by omega))) [0, 1, 3, 2] rfl (by decide) dX0_isOneMoreNearer_59 (Nat.le_of_ble_eq_true rfl) (Nat.le_of_ble_eq_true rfl)
        · have c_51 := bz_1 c_51
          refine lv_iconst (v := 1) hx hb dX0_isOneMoreNearer_54 (by decide) ?_
          refine lv_goto (tgt := 59) hx hb dX0_isOneMoreNearer_55 (by decide) ?_
          exact hret hP hD hS rfl (w4h, w4l) (by have e := hc4 (by rw [hR]; unfold In; omega); rw [hR] at e; rw [e, hM] at c_20; rw [hQ] at c_51; exact bz_t (mN_iff.mpr (Or.inr ⟨by omega, Or.inr ⟨c_41, by omega⟩⟩))) [0, 1, 3, 2] rfl (by decide) dX0_isOneMoreNearer_59 (Nat.le_of_ble_eq_true rfl) (Nat.le_of_ble_eq_true rfl)
  · have c_20 := cm_eqf c_20
    refine lv_iload_n hx hb dX0_isOneMoreNearer_23 rfl (lv_at hl 0 rfl) ?_
    refine lv_if_le (tgt := 31) hx hb dX0_isOneMoreNearer_24 (by decide) (fun c_24 => ?_) (fun c_24 => ?_)
    · have c_24 := cm_let c_24
      refine lv_iconst (v := 0) hx hb dX0_isOneMoreNearer_31 (by decide) ?_
      exact hret hP hD hS rfl (w4h, w4l) (by have e := hc4 (by rw [hR]; unfold In; omega); rw [hR] at e; rw [e, hM] at c_24 c_20; exact bz_f (fun q => by rcases mN_iff.mp q with z | ⟨z, -⟩ <;> omega)) [0, 1, 3, 2] rfl (by decide) dX0_isOneMoreNearer_32 (Nat.le_of_ble_eq_true rfl) (Nat.le_of_ble_eq_true rfl)
    · have c_24 := cm_lef c_24
      refine lv_iconst (v := 1) hx hb dX0_isOneMoreNearer_27 (by decide) ?_
      refine lv_goto (tgt := 32) hx hb dX0_isOneMoreNearer_28 (by decide) ?_
      exact hret hP hD hS rfl (w4h, w4l) (by have e := hc4 (by rw [hR]; unfold In; omega); rw [hR] at e; rw [e, hM] at c_24; exact bz_t (mN_iff.mpr (Or.inl (by omega)))) [0, 1, 3, 2] rfl (by decide) dX0_isOneMoreNearer_32 (Nat.le_of_ble_eq_true rfl) (Nat.le_of_ble_eq_true rfl)

set_option maxHeartbeats 4000000 in
set_option maxRecDepth 100000 in
theorem c_X0_isOneMore (l : Launch) (D : va_G) (cZ cI cJ : ClassId) (o q r d lm co : Nat) (qh ql rh rl dh dl : Int64) (rule : Int32) (Qn Rn Mn : Nat) (ng : Bool) (hQ : wv qh ql = (Qn : Int)) (hR : wv rh rl = (Rn : Int)) (hM : wv dh dl = (Mn : Int)) (hR1 : 2 * Rn < 170141183460469231731687303715884105728) : Ci l D cZ cI cJ yX0_isOneMore cX0_isOneMore 3 (some .boolean) { frames := 3, cells := 0, slots := 0, locals := 66 } [.ref o, .int (bz (ng = true)), .int rule] [(o, .inr (0, [.ref q, .ref r, .ref d, .ref lm, .ref co])), (q, .inr (2, [.long qh, .long ql])), (r, .inr (2, [.long rh, .long rl])), (d, .inr (2, [.long dh, .long dl]))] (S := Int64 × Int64) (fun z u => z = bz (mO rule ng Qn Rn Mn = true)) (fun u => [(o, .inr (0, [.ref q, .ref r, .ref d, .ref lm, .ref co])), (q, .inr (2, [.long qh, .long ql])), (r, .inr (2, [.long u.1, .long u.2])), (d, .inr (2, [.long dh, .long dl]))]) := by
  refine Ci.of (by decide) ?_
  intro p e s m args below meth c A Q hB hret hP hD hA
  obtain ⟨hx, hb, hr, hlocks, hml, hown, hnm, hTB, hK⟩ := hB
  have hown : s.vm.findClass RX0 = some m.cls := hown
  have hS : va_S A s.heap s.heap [] := va_S.rf
  have hl := lv_entry ([.ref o, .int (bz (ng = true)), .int rule]) (n := 3) (Nat.le_of_ble_eq_true rfl)
  rw [lg_entry_eq]
  generalize (lg_sl ([.ref o, .int (bz (ng = true)), .int rule]) ++ List.replicate (3 - (lg_sl ([.ref o, .int (bz (ng = true)), .int rule])).length) Slot.unset).toArray = ls at hl ⊢
  have hl : lv_has ls 3 [(0, .ref o), (1, .int (bz (ng = true))), (2, .int rule)] := hl
  refine lv_aload_n hx hb dX0_isOneMore_0 rfl (lv_at hl 0 rfl) ?_
  refine va_get (D := D) (ci := 0) (v := .ref r) (C := RX0) (T := TX0) (N := 5) hx hb hTB tb_X0 hown hK.1 hP 0 rfl rfl 1 (by decide) (hTB _ tb_3_5) (fun _ h9 => h9) rfl dX0_isOneMore_1 ?_
  refine vp_callSi (va_runV (As := []) (rest := []) ⟨hx, hb, hml, hown, hTB⟩ (c_X2_sign l D cZ cI cJ r rh rl) (cw_V hTB tb_5_23 tb_2_9 tb_11_2 tb_5_21 tb_5_22 nd_X2_sign rfl rfl ⟨Nat.le_of_ble_eq_true rfl, Nat.le_of_ble_eq_true rfl⟩) (prr_V (q0 := 2) hK hP [2] rfl rfl rfl) rfl rfl hl.1 rfl (lv_room (Nat.le_of_ble_eq_true rfl)) dX0_isOneMore_4 ⟨Nat.le_of_ble_eq_true rfl, Nat.le_of_ble_eq_true rfl⟩).run (fun r4 hc4 => ?_)
  subst hc4
  refine lv_if_ne (tgt := 12) hx hb dX0_isOneMore_7 (by decide) (fun c_7 => ?_) (fun c_7 => ?_)
  · have c_7 := sg_net c_7
    refine lv_iload_n hx hb dX0_isOneMore_12 rfl (lv_at hl 2 rfl) ?_
    rcases sw_3 rule with k_13 | k_13 | k_13 | k_13 | k_13
    · refine lv_tableIn (off := 31) (tgt := 44) hx hb dX0_isOneMore_13 (by rw [k_13]; decide) (by rw [k_13]; decide) (by rw [k_13]; rfl) (by decide) ?_
      refine lv_iload_n hx hb dX0_isOneMore_44 rfl (lv_at hl 1 rfl) ?_
      exact hret hP hD hS bz_nar (rh, rl) (bz_c (by rw [mO_c (by rw [hR] at c_7; omega), if_pos (i32_of (k := 0) k_13)])) [0, 1, 2, 3] rfl (by decide) dX0_isOneMore_45 (Nat.le_of_ble_eq_true rfl) (Nat.le_of_ble_eq_true rfl)
    · refine lv_tableIn (off := 33) (tgt := 46) hx hb dX0_isOneMore_13 (by rw [k_13]; decide) (by rw [k_13]; decide) (by rw [k_13]; rfl) (by decide) ?_
      refine lv_iload_n hx hb dX0_isOneMore_46 rfl (lv_at hl 1 rfl) ?_
      refine lv_if_ne (tgt := 54) hx hb dX0_isOneMore_47 (by decide) (fun c_47 => ?_) (fun c_47 => ?_)
      · have c_47 := bz_1 c_47
        refine lv_iconst (v := 0) hx hb dX0_isOneMore_54 (by decide) ?_
        exact hret hP hD hS rfl (rh, rl) (bz_f (by rw [mO_c (by rw [hR] at c_7; omega), if_neg (i32_ne (k := 0) (by rw [k_13]; decide)), if_pos (i32_of (k := 1) k_13)]; rw [c_47]; decide)) [0, 1, 2, 3] rfl (by decide) dX0_isOneMore_55 (Nat.le_of_ble_eq_true rfl) (Nat.le_of_ble_eq_true rfl)
      · have c_47 := bz_0 c_47
        refine lv_iconst (v := 1) hx hb dX0_isOneMore_50 (by decide) ?_
        refine lv_goto (tgt := 55) hx hb dX0_isOneMore_51 (by decide) ?_
        exact hret hP hD hS rfl (rh, rl) (bz_t (by rw [mO_c (by rw [hR] at c_7; omega), if_neg (i32_ne (k := 0) (by rw [k_13]; decide)), if_pos (i32_of (k := 1) k_13)]; cases ng; rfl; exact absurd rfl c_47)) [0, 1, 2, 3] rfl (by decide) dX0_isOneMore_55 (Nat.le_of_ble_eq_true rfl) (Nat.le_of_ble_eq_true rfl)
    · refine lv_tableIn (off := 43) (tgt := 56) hx hb dX0_isOneMore_13 (by rw [k_13]; decide) (by rw [k_13]; decide) (by rw [k_13]; rfl) (by decide) ?_
      refine lv_iconst (v := 0) hx hb dX0_isOneMore_56 (by decide) ?_
      exact hret hP hD hS rfl (rh, rl) (bz_f (by rw [mO_c (by rw [hR] at c_7; omega), if_neg (i32_ne (k := 0) (by rw [k_13]; decide)), if_neg (i32_ne (k := 1) (by rw [k_13]; decide)), if_pos (i32_of (k := 2) k_13)]; decide)) [0, 1, 2, 3] rfl (by decide) dX0_isOneMore_57 (Nat.le_of_ble_eq_true rfl) (Nat.le_of_ble_eq_true rfl)
    · refine lv_tableIn (off := 45) (tgt := 58) hx hb dX0_isOneMore_13 (by rw [k_13]; decide) (by rw [k_13]; decide) (by rw [k_13]; rfl) (by decide) ?_
      refine lv_iconst (v := 1) hx hb dX0_isOneMore_58 (by decide) ?_
      exact hret hP hD hS rfl (rh, rl) (bz_t (by rw [mO_c (by rw [hR] at c_7; omega), if_neg (i32_ne (k := 0) (by rw [k_13]; decide)), if_neg (i32_ne (k := 1) (by rw [k_13]; decide)), if_neg (i32_ne (k := 2) (by rw [k_13]; decide)), if_pos (i32_of (k := 3) k_13)])) [0, 1, 2, 3] rfl (by decide) dX0_isOneMore_59 (Nat.le_of_ble_eq_true rfl) (Nat.le_of_ble_eq_true rfl)
    · refine lv_tableOut (tgt := 60) hx hb dX0_isOneMore_13 k_13 (by decide) ?_
      refine lv_aload_n hx hb dX0_isOneMore_60 rfl (lv_at hl 0 rfl) ?_
      refine lv_iload_n hx hb dX0_isOneMore_61 rfl (lv_at hl 2 rfl) ?_
      refine fin_i (wr := []) (va_runV (As := [.int rule]) (rest := []) ⟨hx, hb, hml, hown, hTB⟩ (c_X0_isOneMoreNearer l D cZ cI cJ o q r d lm co qh ql rh rl dh dl rule Qn Rn Mn hQ hR hM hR1 _) (cw_V hTB tb_15_14 tb_2_5 tb_15_11 tb_15_12 tb_15_13 nd_X0_isOneMoreNearer rfl rfl ⟨Nat.le_of_ble_eq_true rfl, Nat.le_of_ble_eq_true rfl⟩) (pre_V (q0 := 0) hK hP hD [0, 1, 2, 3] rfl rfl rfl rfl) rfl rfl hl.1 rfl (lv_room (Nat.le_of_ble_eq_true rfl)) dX0_isOneMore_62 ⟨Nat.le_of_ble_eq_true rfl, Nat.le_of_ble_eq_true rfl⟩) hP hD hS hA [0, 1, 2, 3] [] rfl rfl rfl (by decide) (fun r62 u62 H locs hc62 hP hD hS => ?_)
      obtain ⟨w62h, w62l⟩ := u62
      try dsimp only at hc62
      have hP : va_P D vwCl [(o, .inr (0, [.ref q, .ref r, .ref d, .ref lm, .ref co])), (q, .inr (2, [.long qh, .long ql])), (r, .inr (2, [.long w62h, .long w62l])), (d, .inr (2, [.long dh, .long dl]))] H := hP
      have hD : va_D A [(o, .inr (0, [.ref q, .ref r, .ref d, .ref lm, .ref co])), (q, .inr (2, [.long qh, .long ql])), (r, .inr (2, [.long w62h, .long w62l])), (d, .inr (2, [.long dh, .long dl]))] := hD
      subst hc62
      exact hret hP hD hS bz_nar (w62h, w62l) (bz_c (by rw [mO_c (by rw [hR] at c_7; omega), if_neg (fun q => by rw [q] at k_13; revert k_13; decide), if_neg (fun q => by rw [q] at k_13; revert k_13; decide), if_neg (fun q => by rw [q] at k_13; revert k_13; decide), if_neg (fun q => by rw [q] at k_13; revert k_13; decide)])) [0, 1, 2, 3] rfl (by decide) dX0_isOneMore_65 (Nat.le_of_ble_eq_true rfl) (Nat.le_of_ble_eq_true rfl)
  · have c_7 := sg_nef c_7
    refine lv_iconst (v := 0) hx hb dX0_isOneMore_10 (by decide) ?_
    exact hret hP hD hS rfl (rh, rl) (bz_f (mO_0 (by rw [hR] at c_7; omega))) [0, 1, 2, 3] rfl (by decide) dX0_isOneMore_11 (Nat.le_of_ble_eq_true rfl) (Nat.le_of_ble_eq_true rfl)

set_option maxHeartbeats 4000000 in
set_option maxRecDepth 100000 in
theorem c_X0_rounded (l : Launch) (D : va_G) (cZ cI cJ : ClassId) (o q r d lm co up lw : Nat) (qh ql rh rl dh dl mh ml uh ul vh vl : Int64) (rule : Int32) (hB0 : 0 < (wv vh vl).natAbs) (hA1 : (wv uh ul).natAbs < 170141183460469231731687303715884105728) (hB1 : (wv vh vl).natAbs < 85070591730234615865843651857942052864) : Cl l D cZ cI cJ yX0_rounded cX0_rounded 7 (some .long) { frames := 4, cells := 0, slots := 0, locals := 88 } [.ref o, .ref up, .ref lw, .int rule] [(o, .inr (0, [.ref q, .ref r, .ref d, .ref lm, .ref co])), (q, .inr (2, [.long qh, .long ql])), (r, .inr (2, [.long rh, .long rl])), (d, .inr (2, [.long dh, .long dl])), (lm, .inr (2, [.long mh, .long ml])), (up, .inr (2, [.long uh, .long ul])), (lw, .inr (2, [.long vh, .long vl]))] (S := (Int64 × Int64) × (Int64 × Int64) × (Int64 × Int64) × (Int64 × Int64)) (fun z u => z = rdv rule (wv uh ul) (wv vh vl)) (fun u => [(o, .inr (0, [.ref q, .ref r, .ref d, .ref lm, .ref co])), (q, .inr (2, [.long u.1.1, .long u.1.2])), (r, .inr (2, [.long u.2.1.1, .long u.2.1.2])), (d, .inr (2, [.long u.2.2.1.1, .long u.2.2.1.2])), (lm, .inr (2, [.long u.2.2.2.1, .long u.2.2.2.2])), (up, .inr (2, [.long uh, .long ul])), (lw, .inr (2, [.long vh, .long vl]))]) := by
  refine Cl.of (by decide) ?_
  intro p e s m args below meth c A Q hB hret hP hD hA
  obtain ⟨hx, hb, hr, hlocks, hml, hown, hnm, hTB, hK⟩ := hB
  have hown : s.vm.findClass RX0 = some m.cls := hown
  have hS : va_S A s.heap s.heap [] := va_S.rf
  have hl := lv_entry ([.ref o, .ref up, .ref lw, .int rule]) (n := 7) (Nat.le_of_ble_eq_true rfl)
  rw [lg_entry_eq]
  generalize (lg_sl ([.ref o, .ref up, .ref lw, .int rule]) ++ List.replicate (7 - (lg_sl ([.ref o, .ref up, .ref lw, .int rule])).length) Slot.unset).toArray = ls at hl ⊢
  have hl : lv_has ls 7 [(0, .ref o), (1, .ref up), (2, .ref lw), (3, .int rule)] := hl
  refine lv_aload_n hx hb dX0_rounded_0 rfl (lv_at hl 1 rfl) ?_
  refine vp_callSi (va_runV (As := []) (rest := []) ⟨hx, hb, hml, hown, hTB⟩ (c_X2_sign l D cZ cI cJ up uh ul) (cw_V hTB tb_5_23 tb_2_9 tb_11_2 tb_5_21 tb_5_22 nd_X2_sign rfl rfl ⟨Nat.le_of_ble_eq_true rfl, Nat.le_of_ble_eq_true rfl⟩) (prr_V (q0 := 5) hK hP [5] rfl rfl rfl) rfl rfl hl.1 rfl (lv_room (Nat.le_of_ble_eq_true rfl)) dX0_rounded_1 ⟨Nat.le_of_ble_eq_true rfl, Nat.le_of_ble_eq_true rfl⟩).run (fun r1 hc1 => ?_)
  subst hc1
  refine lv_aload_n hx hb dX0_rounded_4 rfl (lv_at hl 2 rfl) ?_
  refine vp_callSi (va_runV (As := []) (rest := [.int (sg (wv uh ul))]) ⟨hx, hb, hml, hown, hTB⟩ (c_X2_sign l D cZ cI cJ lw vh vl) (cw_V hTB tb_5_23 tb_2_9 tb_11_2 tb_5_21 tb_5_22 nd_X2_sign rfl rfl ⟨Nat.le_of_ble_eq_true rfl, Nat.le_of_ble_eq_true rfl⟩) (prr_V (q0 := 6) hK hP [6] rfl rfl rfl) rfl rfl hl.1 rfl (lv_room (Nat.le_of_ble_eq_true rfl)) dX0_rounded_5 ⟨Nat.le_of_ble_eq_true rfl, Nat.le_of_ble_eq_true rfl⟩).run (fun r5 hc5 => ?_)
  subst hc5
  refine lv_imul hx hb dX0_rounded_8 ?_
  have J17 : ∀ (x : Int32), x = bz (ngv (wv uh ul) (wv vh vl) = true) → ∀ (H : Heap) (locs : List Loc), va_P D vwCl [(o, .inr (0, [.ref q, .ref r, .ref d, .ref lm, .ref co])), (q, .inr (2, [.long qh, .long ql])), (r, .inr (2, [.long rh, .long rl])), (d, .inr (2, [.long dh, .long dl])), (lm, .inr (2, [.long mh, .long ml])), (up, .inr (2, [.long uh, .long ul])), (lw, .inr (2, [.long vh, .long vl]))] H → va_D A [(o, .inr (0, [.ref q, .ref r, .ref d, .ref lm, .ref co])), (q, .inr (2, [.long qh, .long ql])), (r, .inr (2, [.long rh, .long rl])), (d, .inr (2, [.long dh, .long dl])), (lm, .inr (2, [.long mh, .long ml])), (up, .inr (2, [.long uh, .long ul])), (lw, .inr (2, [.long vh, .long vl]))] → va_S A s.heap H locs → ∀ (ls : Array Slot), lv_has ls 7 [(0, .ref o), (1, .ref up), (2, .ref lw), (3, .int rule)] → W p l e { frames := 4, cells := 0, slots := 0, locals := 88 } s m args below meth c H locs 0 0 Q (F0 m 17 ls [.int x]) := by
    intro x g1 H locs hP hD hS ls hl
    subst g1
    refine lv_istore (lv' := [(4, .int (bz (ngv (wv uh ul) (wv vh vl) = true))), (0, .ref o), (1, .ref up), (2, .ref lw), (3, .int rule)]) hx hb dX0_rounded_17 hl (by decide) rfl (fun ls hl => ?_)
    refine lv_aload_n hx hb dX0_rounded_19 rfl (lv_at hl 1 rfl) ?_
    refine lv_aload_n hx hb dX0_rounded_20 rfl (lv_at hl 2 rfl) ?_
    refine lv_aload_n hx hb dX0_rounded_21 rfl (lv_at hl 3 rfl) ?_
    refine fin_v (wr := []) (va_runV (As := [.ref up, .ref lw]) (rest := []) ⟨hx, hb, hml, hown, hTB⟩ (c_X0_divideAmounts l D cZ cI cJ o q r d lm co up lw qh ql rh rl dh dl mh ml uh ul vh vl ((wv uh ul).natAbs) ((wv vh vl).natAbs) rfl rfl hB0 hA1 (by omega) _) (cw_V hTB tb_12_11 tb_2_5 tb_12_8 tb_12_9 tb_12_10 nd_X0_divideAmounts rfl rfl ⟨Nat.le_of_ble_eq_true rfl, Nat.le_of_ble_eq_true rfl⟩) (pre_V (q0 := 0) hK hP hD [0, 1, 2, 3, 4, 5, 6] rfl rfl rfl rfl) rfl rfl hl.1 rfl (lv_room (Nat.le_of_ble_eq_true rfl)) dX0_rounded_22 ⟨Nat.le_of_ble_eq_true rfl, Nat.le_of_ble_eq_true rfl⟩) hP hD hS hA [0, 1, 2, 3, 4, 5, 6] [] rfl rfl rfl (by decide) (fun u22 H locs hc22 hP hD hS => ?_)
    obtain ⟨⟨q2h, q2l⟩, ⟨r2h, r2l⟩, ⟨d2h, d2l⟩, m2h, m2l⟩ := u22
    dsimp only at hc22
    obtain ⟨eq, er, ed⟩ := hc22
    have hP : va_P D vwCl [(o, .inr (0, [.ref q, .ref r, .ref d, .ref lm, .ref co])), (q, .inr (2, [.long q2h, .long q2l])), (r, .inr (2, [.long r2h, .long r2l])), (d, .inr (2, [.long d2h, .long d2l])), (lm, .inr (2, [.long m2h, .long m2l])), (up, .inr (2, [.long uh, .long ul])), (lw, .inr (2, [.long vh, .long vl]))] H := hP
    have hD : va_D A [(o, .inr (0, [.ref q, .ref r, .ref d, .ref lm, .ref co])), (q, .inr (2, [.long q2h, .long q2l])), (r, .inr (2, [.long r2h, .long r2l])), (d, .inr (2, [.long d2h, .long d2l])), (lm, .inr (2, [.long m2h, .long m2l])), (up, .inr (2, [.long uh, .long ul])), (lw, .inr (2, [.long vh, .long vl]))] := hD
    refine lv_aload_n hx hb dX0_rounded_25 rfl (lv_at hl 1 rfl) ?_
    refine lv_iload hx hb dX0_rounded_26 (lv_at hl 0 rfl) ?_
    refine lv_iload_n hx hb dX0_rounded_28 rfl (lv_at hl 4 rfl) ?_
    refine fin_i (wr := [(lm, .inr (2, [.long m2h, .long m2l])), (up, .inr (2, [.long uh, .long ul])), (lw, .inr (2, [.long vh, .long vl]))]) (va_runV (As := [.int (bz (ngv (wv uh ul) (wv vh vl) = true)), .int rule]) (rest := []) ⟨hx, hb, hml, hown, hTB⟩ (c_X0_isOneMore l D cZ cI cJ o q r d lm co q2h q2l r2h r2l d2h d2l rule ((wv uh ul).natAbs / (wv vh vl).natAbs) ((wv uh ul).natAbs % (wv vh vl).natAbs) ((wv vh vl).natAbs) (ngv (wv uh ul) (wv vh vl)) eq er ed (by have := Nat.mod_lt (wv uh ul).natAbs hB0; omega) _) (cw_V hTB tb_15_10 tb_2_5 tb_15_7 tb_15_8 tb_15_9 nd_X0_isOneMore rfl rfl ⟨Nat.le_of_ble_eq_true rfl, Nat.le_of_ble_eq_true rfl⟩) (pre_V (q0 := 0) hK hP hD [0, 1, 2, 3] rfl rfl rfl rfl) rfl rfl hl.1 rfl (lv_room (Nat.le_of_ble_eq_true rfl)) dX0_rounded_29 ⟨Nat.le_of_ble_eq_true rfl, Nat.le_of_ble_eq_true rfl⟩) hP hD hS hA [0, 1, 2, 3] [4, 5, 6] rfl rfl rfl (by decide) (fun r29 u29 H locs hc29 hP hD hS => ?_)
    obtain ⟨w29h, w29l⟩ := u29
    try dsimp only at hc29
    have hP : va_P D vwCl [(lm, .inr (2, [.long m2h, .long m2l])), (up, .inr (2, [.long uh, .long ul])), (lw, .inr (2, [.long vh, .long vl])), (o, .inr (0, [.ref q, .ref r, .ref d, .ref lm, .ref co])), (q, .inr (2, [.long q2h, .long q2l])), (r, .inr (2, [.long w29h, .long w29l])), (d, .inr (2, [.long d2h, .long d2l]))] H := hP
    have hD : va_D A [(lm, .inr (2, [.long m2h, .long m2l])), (up, .inr (2, [.long uh, .long ul])), (lw, .inr (2, [.long vh, .long vl])), (o, .inr (0, [.ref q, .ref r, .ref d, .ref lm, .ref co])), (q, .inr (2, [.long q2h, .long q2l])), (r, .inr (2, [.long w29h, .long w29l])), (d, .inr (2, [.long d2h, .long d2l]))] := hD
    subst hc29
    refine lv_if_eq (tgt := 47) hx hb dX0_rounded_32 (by decide) (fun c_32 => ?_) (fun c_32 => ?_)
    · have c_32 := bz_0 c_32
      refine lv_aload_n hx hb dX0_rounded_47 rfl (lv_at hl 1 rfl) ?_
      refine va_get (D := D) (ci := 0) (v := .ref q) (C := RX0) (T := TX0) (N := 5) hx hb hTB tb_X0 hown hK.1 hP 3 rfl rfl 0 (by decide) (hTB _ tb_3_4) (fun _ h9 => h9) rfl dX0_rounded_48 ?_
      refine va_getN (D := D) (ci := 2) (v := .long q2l) (C := RX2) (T := TX2) (N := 2) hx hb hTB tb_X2 hown hK.1 hP 4 rfl rfl 1 (by decide) (va_Nw.use rfl (hK.2 _ nw_5)) (fun _ h9 => h9) rfl dX0_rounded_51 ?_
      refine lv_lstore (lv' := [(5, .long q2l), (4, .int (bz (ngv (wv uh ul) (wv vh vl) = true))), (0, .ref o), (1, .ref up), (2, .ref lw), (3, .int rule)]) hx hb dX0_rounded_54 hl (by decide) rfl (fun ls hl => ?_)
      refine lv_iload hx hb dX0_rounded_56 (lv_at hl 1 rfl) ?_
      refine lv_if_eq (tgt := 67) hx hb dX0_rounded_58 (by decide) (fun c_58 => ?_) (fun c_58 => ?_)
      · have c_58 := bz_0 c_58
        refine lv_lload hx hb dX0_rounded_67 (lv_at hl 0 rfl) ?_
        exact hret hP hD hS ((q2h, q2l), (w29h, w29l), (d2h, d2l), (m2h, m2l)) (by unfold rdv; rw [if_neg c_58, if_neg c_32, lo_of eq]) [3, 4, 5, 6, 0, 1, 2] rfl (by decide) dX0_rounded_69 (Nat.le_of_ble_eq_true rfl) (Nat.le_of_ble_eq_true rfl)
      · have c_58 := bz_1 c_58
        refine lv_lload hx hb dX0_rounded_61 (lv_at hl 0 rfl) ?_
        refine lv_lneg hx hb dX0_rounded_63 ?_
        refine lv_goto (tgt := 69) hx hb dX0_rounded_64 (by decide) ?_
        exact hret hP hD hS ((q2h, q2l), (w29h, w29l), (d2h, d2l), (m2h, m2l)) (by unfold rdv; rw [if_pos c_58, if_neg c_32, lo_of eq]) [3, 4, 5, 6, 0, 1, 2] rfl (by decide) dX0_rounded_69 (Nat.le_of_ble_eq_true rfl) (Nat.le_of_ble_eq_true rfl)
    · have c_32 := bz_1 c_32
      refine lv_aload_n hx hb dX0_rounded_35 rfl (lv_at hl 1 rfl) ?_
      refine va_get (D := D) (ci := 0) (v := .ref q) (C := RX0) (T := TX0) (N := 5) hx hb hTB tb_X0 hown hK.1 hP 3 rfl rfl 0 (by decide) (hTB _ tb_3_4) (fun _ h9 => h9) rfl dX0_rounded_36 ?_
      refine va_getN (D := D) (ci := 2) (v := .long q2l) (C := RX2) (T := TX2) (N := 2) hx hb hTB tb_X2 hown hK.1 hP 4 rfl rfl 1 (by decide) (va_Nw.use rfl (hK.2 _ nw_5)) (fun _ h9 => h9) rfl dX0_rounded_39 ?_
      refine lv_lconst (v := 1) hx hb dX0_rounded_42 (by decide) ?_
      refine lv_ladd hx hb dX0_rounded_43 ?_
      refine lv_goto (tgt := 54) hx hb dX0_rounded_44 (by decide) ?_
      refine lv_lstore (lv' := [(5, .long (q2l + 1)), (4, .int (bz (ngv (wv uh ul) (wv vh vl) = true))), (0, .ref o), (1, .ref up), (2, .ref lw), (3, .int rule)]) hx hb dX0_rounded_54 hl (by decide) rfl (fun ls hl => ?_)
      refine lv_iload hx hb dX0_rounded_56 (lv_at hl 1 rfl) ?_
      refine lv_if_eq (tgt := 67) hx hb dX0_rounded_58 (by decide) (fun c_58 => ?_) (fun c_58 => ?_)
      · have c_58 := bz_0 c_58
        refine lv_lload hx hb dX0_rounded_67 (lv_at hl 0 rfl) ?_
        exact hret hP hD hS ((q2h, q2l), (w29h, w29l), (d2h, d2l), (m2h, m2l)) (by unfold rdv; rw [if_neg c_58, if_pos c_32, lo_of eq]) [3, 4, 5, 6, 0, 1, 2] rfl (by decide) dX0_rounded_69 (Nat.le_of_ble_eq_true rfl) (Nat.le_of_ble_eq_true rfl)
      · have c_58 := bz_1 c_58
        refine lv_lload hx hb dX0_rounded_61 (lv_at hl 0 rfl) ?_
        refine lv_lneg hx hb dX0_rounded_63 ?_
        refine lv_goto (tgt := 69) hx hb dX0_rounded_64 (by decide) ?_
        exact hret hP hD hS ((q2h, q2l), (w29h, w29l), (d2h, d2l), (m2h, m2l)) (by unfold rdv; rw [if_pos c_58, if_pos c_32, lo_of eq]) [3, 4, 5, 6, 0, 1, 2] rfl (by decide) dX0_rounded_69 (Nat.le_of_ble_eq_true rfl) (Nat.le_of_ble_eq_true rfl)
  refine lv_if_ge (tgt := 16) hx hb dX0_rounded_9 (by decide) (fun c_9 => ?_) (fun c_9 => ?_)
  · refine lv_iconst (v := 0) hx hb dX0_rounded_16 (by decide) ?_
    refine J17 0 ?_ _ _ hP hD hS _ (lv_sub hl [0, 1, 2, 3] rfl)
    · exact bz_f (ng_f c_9)
  · refine lv_iconst (v := 1) hx hb dX0_rounded_12 (by decide) ?_
    refine lv_goto (tgt := 17) hx hb dX0_rounded_13 (by decide) ?_
    refine J17 1 ?_ _ _ hP hD hS _ (lv_sub hl [0, 1, 2, 3] rfl)
    · exact bz_t (ng_t c_9)

set_option maxHeartbeats 4000000 in
set_option maxRecDepth 100000 in
theorem c_X0_takeLessFromGreater (l : Launch) (D : va_G) (cZ cI cJ : ClassId) (o q r d lm co : Nat) (rh rl ch cl : Int64) (Rn Cn : Nat) (hR : wv rh rl = (Rn : Int)) (hC : wv ch cl = (Cn : Int)) : Cv l D cZ cI cJ yX0_takeLessFromGreater cX0_takeLessFromGreater 1 { frames := 2, cells := 0, slots := 0, locals := 44 } [.ref o] [(o, .inr (0, [.ref q, .ref r, .ref d, .ref lm, .ref co])), (r, .inr (2, [.long rh, .long rl])), (co, .inr (2, [.long ch, .long cl]))] (S := (Int64 × Int64) × (Int64 × Int64)) (fun u => wv u.1.1 u.1.2 = (((if Cn ≤ Rn then (Rn - Cn) / 2 else Rn) : Nat) : Int) ∧ wv u.2.1 u.2.2 = (((if Cn ≤ Rn then Cn else (Cn - Rn) / 2) : Nat) : Int)) (fun u => [(o, .inr (0, [.ref q, .ref r, .ref d, .ref lm, .ref co])), (r, .inr (2, [.long u.1.1, .long u.1.2])), (co, .inr (2, [.long u.2.1, .long u.2.2]))]) := by
  refine Cv.of (by decide) ?_
  intro p e s m args below meth c A Q hB hret hP hD hA
  obtain ⟨hx, hb, hr, hlocks, hml, hown, hnm, hTB, hK⟩ := hB
  have hown : s.vm.findClass RX0 = some m.cls := hown
  have hS : va_S A s.heap s.heap [] := va_S.rf
  have hl := lv_entry ([.ref o]) (n := 1) (Nat.le_of_ble_eq_true rfl)
  rw [lg_entry_eq]
  generalize (lg_sl ([.ref o]) ++ List.replicate (1 - (lg_sl ([.ref o])).length) Slot.unset).toArray = ls at hl ⊢
  have hl : lv_has ls 1 [(0, .ref o)] := hl
  refine lv_aload_n hx hb dX0_takeLessFromGreater_0 rfl (lv_at hl 0 rfl) ?_
  refine va_get (D := D) (ci := 0) (v := .ref co) (C := RX0) (T := TX0) (N := 5) hx hb hTB tb_X0 hown hK.1 hP 0 rfl rfl 4 (by decide) (hTB _ tb_3_8) (fun _ h9 => h9) rfl dX0_takeLessFromGreater_1 ?_
  refine lv_aload_n hx hb dX0_takeLessFromGreater_4 rfl (lv_at hl 0 rfl) ?_
  refine va_get (D := D) (ci := 0) (v := .ref r) (C := RX0) (T := TX0) (N := 5) hx hb hTB tb_X0 hown hK.1 hP 0 rfl rfl 1 (by decide) (hTB _ tb_3_5) (fun _ h9 => h9) rfl dX0_takeLessFromGreater_5 ?_
  refine vp_callSi (va_runV (As := [.ref r]) (rest := []) ⟨hx, hb, hml, hown, hTB⟩ (c_X2_compare l D cZ cI cJ co r ch cl rh rl) (cw_V hTB tb_9_22 tb_2_9 tb_11_15 tb_9_20 tb_9_21 nd_X2_compare rfl rfl ⟨Nat.le_of_ble_eq_true rfl, Nat.le_of_ble_eq_true rfl⟩) (prr_V (q0 := 2) hK hP [2, 1] rfl rfl rfl) rfl rfl hl.1 rfl (lv_room (Nat.le_of_ble_eq_true rfl)) dX0_takeLessFromGreater_8 ⟨Nat.le_of_ble_eq_true rfl, Nat.le_of_ble_eq_true rfl⟩).run (fun r8 hc8 => ?_)
  subst hc8
  refine lv_if_gt (tgt := 35) hx hb dX0_takeLessFromGreater_11 (by decide) (fun c_11 => ?_) (fun c_11 => ?_)
  · have c_11 := cm_gtt c_11
    refine lv_aload_n hx hb dX0_takeLessFromGreater_35 rfl (lv_at hl 0 rfl) ?_
    refine va_get (D := D) (ci := 0) (v := .ref co) (C := RX0) (T := TX0) (N := 5) hx hb hTB tb_X0 hown hK.1 hP 0 rfl rfl 4 (by decide) (hTB _ tb_3_8) (fun _ h9 => h9) rfl dX0_takeLessFromGreater_36 ?_
    refine lv_aload_n hx hb dX0_takeLessFromGreater_39 rfl (lv_at hl 0 rfl) ?_
    refine va_get (D := D) (ci := 0) (v := .ref r) (C := RX0) (T := TX0) (N := 5) hx hb hTB tb_X0 hown hK.1 hP 0 rfl rfl 1 (by decide) (hTB _ tb_3_5) (fun _ h9 => h9) rfl dX0_takeLessFromGreater_40 ?_
    refine fin_v (wr := [(o, .inr (0, [.ref q, .ref r, .ref d, .ref lm, .ref co]))]) (va_runV (As := [.ref r]) (rest := []) ⟨hx, hb, hml, hown, hTB⟩ (c_X2_subtract l D cZ cI cJ co r ch cl rh rl _) (cw_V hTB tb_11_19 tb_2_9 tb_11_16 tb_11_17 tb_11_18 nd_X2_subtract rfl rfl ⟨Nat.le_of_ble_eq_true rfl, Nat.le_of_ble_eq_true rfl⟩) (pre_V (q0 := 2) hK hP hD [2, 1] rfl rfl rfl rfl) rfl rfl hl.1 rfl (lv_room (Nat.le_of_ble_eq_true rfl)) dX0_takeLessFromGreater_43 ⟨Nat.le_of_ble_eq_true rfl, Nat.le_of_ble_eq_true rfl⟩) hP hD hS hA [2, 1] [0] rfl rfl rfl (by decide) (fun u43 H locs hc43 hP hD hS => ?_)
    obtain ⟨w43h, w43l⟩ := u43
    try dsimp only at hc43
    have hP : va_P D vwCl [(o, .inr (0, [.ref q, .ref r, .ref d, .ref lm, .ref co])), (co, .inr (2, [.long w43h, .long w43l])), (r, .inr (2, [.long rh, .long rl]))] H := hP
    have hD : va_D A [(o, .inr (0, [.ref q, .ref r, .ref d, .ref lm, .ref co])), (co, .inr (2, [.long w43h, .long w43l])), (r, .inr (2, [.long rh, .long rl]))] := hD
    refine lv_aload_n hx hb dX0_takeLessFromGreater_46 rfl (lv_at hl 0 rfl) ?_
    refine va_get (D := D) (ci := 0) (v := .ref co) (C := RX0) (T := TX0) (N := 5) hx hb hTB tb_X0 hown hK.1 hP 0 rfl rfl 4 (by decide) (hTB _ tb_3_8) (fun _ h9 => h9) rfl dX0_takeLessFromGreater_47 ?_
    refine fin_v (wr := [(o, .inr (0, [.ref q, .ref r, .ref d, .ref lm, .ref co])), (r, .inr (2, [.long rh, .long rl]))]) (va_runV (As := []) (rest := []) ⟨hx, hb, hml, hown, hTB⟩ (c_X2_half l D cZ cI cJ co w43h w43l _) (cw_V hTB tb_11_10 tb_2_9 tb_11_7 tb_11_8 tb_11_9 nd_X2_half rfl rfl ⟨Nat.le_of_ble_eq_true rfl, Nat.le_of_ble_eq_true rfl⟩) (pre_V (q0 := 1) hK hP hD [1] rfl rfl rfl rfl) rfl rfl hl.1 rfl (lv_room (Nat.le_of_ble_eq_true rfl)) dX0_takeLessFromGreater_50 ⟨Nat.le_of_ble_eq_true rfl, Nat.le_of_ble_eq_true rfl⟩) hP hD hS hA [1] [0, 2] rfl rfl rfl (by decide) (fun u50 H locs hc50 hP hD hS => ?_)
    obtain ⟨w50h, w50l⟩ := u50
    try dsimp only at hc50
    have hP : va_P D vwCl [(o, .inr (0, [.ref q, .ref r, .ref d, .ref lm, .ref co])), (r, .inr (2, [.long rh, .long rl])), (co, .inr (2, [.long w50h, .long w50l]))] H := hP
    have hD : va_D A [(o, .inr (0, [.ref q, .ref r, .ref d, .ref lm, .ref co])), (r, .inr (2, [.long rh, .long rl])), (co, .inr (2, [.long w50h, .long w50l]))] := hD
    exact hret hP hD hS ((rh, rl), (w50h, w50l)) (by have i1 := wv_in rh rl; have i2 := wv_in ch cl; unfold In at i1 i2; rw [hR, hC] at c_11; rw [hR] at hc43; rw [hC] at hc43; refine ⟨by rw [if_neg (by omega)]; exact hR, ?_⟩; dsimp only; rw [hc50, hc43 (by unfold In; omega), if_neg (by omega)]; omega) [0, 1, 2] rfl (by decide) dX0_takeLessFromGreater_53 (Nat.le_of_ble_eq_true rfl) (Nat.le_of_ble_eq_true rfl)
  · have c_11 := cm_gtf c_11
    refine lv_aload_n hx hb dX0_takeLessFromGreater_14 rfl (lv_at hl 0 rfl) ?_
    refine va_get (D := D) (ci := 0) (v := .ref r) (C := RX0) (T := TX0) (N := 5) hx hb hTB tb_X0 hown hK.1 hP 0 rfl rfl 1 (by decide) (hTB _ tb_3_5) (fun _ h9 => h9) rfl dX0_takeLessFromGreater_15 ?_
    refine lv_aload_n hx hb dX0_takeLessFromGreater_18 rfl (lv_at hl 0 rfl) ?_
    refine va_get (D := D) (ci := 0) (v := .ref co) (C := RX0) (T := TX0) (N := 5) hx hb hTB tb_X0 hown hK.1 hP 0 rfl rfl 4 (by decide) (hTB _ tb_3_8) (fun _ h9 => h9) rfl dX0_takeLessFromGreater_19 ?_
    refine fin_v (wr := [(o, .inr (0, [.ref q, .ref r, .ref d, .ref lm, .ref co]))]) (va_runV (As := [.ref co]) (rest := []) ⟨hx, hb, hml, hown, hTB⟩ (c_X2_subtract l D cZ cI cJ r co rh rl ch cl _) (cw_V hTB tb_11_19 tb_2_9 tb_11_16 tb_11_17 tb_11_18 nd_X2_subtract rfl rfl ⟨Nat.le_of_ble_eq_true rfl, Nat.le_of_ble_eq_true rfl⟩) (pre_V (q0 := 1) hK hP hD [1, 2] rfl rfl rfl rfl) rfl rfl hl.1 rfl (lv_room (Nat.le_of_ble_eq_true rfl)) dX0_takeLessFromGreater_22 ⟨Nat.le_of_ble_eq_true rfl, Nat.le_of_ble_eq_true rfl⟩) hP hD hS hA [1, 2] [0] rfl rfl rfl (by decide) (fun u22 H locs hc22 hP hD hS => ?_)
    obtain ⟨w22h, w22l⟩ := u22
    try dsimp only at hc22
    have hP : va_P D vwCl [(o, .inr (0, [.ref q, .ref r, .ref d, .ref lm, .ref co])), (r, .inr (2, [.long w22h, .long w22l])), (co, .inr (2, [.long ch, .long cl]))] H := hP
    have hD : va_D A [(o, .inr (0, [.ref q, .ref r, .ref d, .ref lm, .ref co])), (r, .inr (2, [.long w22h, .long w22l])), (co, .inr (2, [.long ch, .long cl]))] := hD
    refine lv_aload_n hx hb dX0_takeLessFromGreater_25 rfl (lv_at hl 0 rfl) ?_
    refine va_get (D := D) (ci := 0) (v := .ref r) (C := RX0) (T := TX0) (N := 5) hx hb hTB tb_X0 hown hK.1 hP 0 rfl rfl 1 (by decide) (hTB _ tb_3_5) (fun _ h9 => h9) rfl dX0_takeLessFromGreater_26 ?_
    refine fin_v (wr := [(o, .inr (0, [.ref q, .ref r, .ref d, .ref lm, .ref co])), (co, .inr (2, [.long ch, .long cl]))]) (va_runV (As := []) (rest := []) ⟨hx, hb, hml, hown, hTB⟩ (c_X2_half l D cZ cI cJ r w22h w22l _) (cw_V hTB tb_11_10 tb_2_9 tb_11_7 tb_11_8 tb_11_9 nd_X2_half rfl rfl ⟨Nat.le_of_ble_eq_true rfl, Nat.le_of_ble_eq_true rfl⟩) (pre_V (q0 := 1) hK hP hD [1] rfl rfl rfl rfl) rfl rfl hl.1 rfl (lv_room (Nat.le_of_ble_eq_true rfl)) dX0_takeLessFromGreater_29 ⟨Nat.le_of_ble_eq_true rfl, Nat.le_of_ble_eq_true rfl⟩) hP hD hS hA [1] [0, 2] rfl rfl rfl (by decide) (fun u29 H locs hc29 hP hD hS => ?_)
    obtain ⟨w29h, w29l⟩ := u29
    try dsimp only at hc29
    have hP : va_P D vwCl [(o, .inr (0, [.ref q, .ref r, .ref d, .ref lm, .ref co])), (co, .inr (2, [.long ch, .long cl])), (r, .inr (2, [.long w29h, .long w29l]))] H := hP
    have hD : va_D A [(o, .inr (0, [.ref q, .ref r, .ref d, .ref lm, .ref co])), (co, .inr (2, [.long ch, .long cl])), (r, .inr (2, [.long w29h, .long w29l]))] := hD
    refine lv_goto (tgt := 53) hx hb dX0_takeLessFromGreater_32 (by decide) ?_
    exact hret hP hD hS ((w29h, w29l), (ch, cl)) (by have i1 := wv_in rh rl; have i2 := wv_in ch cl; unfold In at i1 i2; rw [hR, hC] at c_11; rw [hR] at hc22; rw [hC] at hc22; refine ⟨?_, by rw [if_pos (by omega)]; exact hC⟩; dsimp only; rw [hc29, hc22 (by unfold In; omega), if_pos (by omega)]; omega) [0, 2, 1] rfl (by decide) dX0_takeLessFromGreater_53 (Nat.le_of_ble_eq_true rfl) (Nat.le_of_ble_eq_true rfl)

set_option maxHeartbeats 4000000 in
set_option maxRecDepth 100000 in
theorem c_X0_findCommon (l : Launch) (D : va_G) (cZ cI cJ : ClassId) (o q r d lm co up lw : Nat) (rh rl ch cl uh ul vh vl : Int64) (Ln : Nat) (hL : wv vh vl = (Ln : Int)) (hL0 : 0 < Ln) (hA1 : (wv uh ul).natAbs < 170141183460469231731687303715884105728) : Cv l D cZ cI cJ yX0_findCommon cX0_findCommon 5 { frames := 3, cells := 0, slots := 0, locals := 64 } [.ref o, .ref up, .ref lw] [(o, .inr (0, [.ref q, .ref r, .ref d, .ref lm, .ref co])), (r, .inr (2, [.long rh, .long rl])), (co, .inr (2, [.long ch, .long cl])), (up, .inr (2, [.long uh, .long ul])), (lw, .inr (2, [.long vh, .long vl]))] (S := (Int64 × Int64) × (Int64 × Int64)) (fun u => wv u.2.1 u.2.2 = ((Nat.gcd ((wv uh ul).natAbs) Ln : Nat) : Int)) (fun u => [(o, .inr (0, [.ref q, .ref r, .ref d, .ref lm, .ref co])), (r, .inr (2, [.long u.1.1, .long u.1.2])), (co, .inr (2, [.long u.2.1, .long u.2.2])), (up, .inr (2, [.long uh, .long ul])), (lw, .inr (2, [.long vh, .long vl]))]) := by
  refine Cv.of (by decide) ?_
  intro p e s m args below meth c A Q hB hret hP hD hA
  obtain ⟨hx, hb, hr, hlocks, hml, hown, hnm, hTB, hK⟩ := hB
  have hown : s.vm.findClass RX0 = some m.cls := hown
  have hS : va_S A s.heap s.heap [] := va_S.rf
  have hl := lv_entry ([.ref o, .ref up, .ref lw]) (n := 5) (Nat.le_of_ble_eq_true rfl)
  rw [lg_entry_eq]
  generalize (lg_sl ([.ref o, .ref up, .ref lw]) ++ List.replicate (5 - (lg_sl ([.ref o, .ref up, .ref lw])).length) Slot.unset).toArray = ls at hl ⊢
  have hl : lv_has ls 5 [(0, .ref o), (1, .ref up), (2, .ref lw)] := hl
  refine lv_aload_n hx hb dX0_findCommon_0 rfl (lv_at hl 0 rfl) ?_
  refine va_get (D := D) (ci := 0) (v := .ref r) (C := RX0) (T := TX0) (N := 5) hx hb hTB tb_X0 hown hK.1 hP 0 rfl rfl 1 (by decide) (hTB _ tb_3_5) (fun _ h9 => h9) rfl dX0_findCommon_1 ?_
  refine lv_aload_n hx hb dX0_findCommon_4 rfl (lv_at hl 1 rfl) ?_
  refine fin_v (wr := [(o, .inr (0, [.ref q, .ref r, .ref d, .ref lm, .ref co])), (co, .inr (2, [.long ch, .long cl])), (lw, .inr (2, [.long vh, .long vl]))]) (va_runV (As := [.ref up]) (rest := []) ⟨hx, hb, hml, hown, hTB⟩ (c_X2_copyAmount l D cZ cI cJ r up rh rl uh ul _) (cw_V hTB tb_10_22 tb_2_9 tb_10_19 tb_10_20 tb_10_21 nd_X2_copyAmount rfl rfl ⟨Nat.le_of_ble_eq_true rfl, Nat.le_of_ble_eq_true rfl⟩) (pre_V (q0 := 1) hK hP hD [1, 3] rfl rfl rfl rfl) rfl rfl hl.1 rfl (lv_room (Nat.le_of_ble_eq_true rfl)) dX0_findCommon_5 ⟨Nat.le_of_ble_eq_true rfl, Nat.le_of_ble_eq_true rfl⟩) hP hD hS hA [1, 3] [0, 2, 4] rfl rfl rfl (by decide) (fun u5 H locs hc5 hP hD hS => ?_)
  obtain ⟨w5h, w5l⟩ := u5
  try dsimp only at hc5
  have hP : va_P D vwCl [(o, .inr (0, [.ref q, .ref r, .ref d, .ref lm, .ref co])), (co, .inr (2, [.long ch, .long cl])), (lw, .inr (2, [.long vh, .long vl])), (r, .inr (2, [.long w5h, .long w5l])), (up, .inr (2, [.long uh, .long ul]))] H := hP
  have hD : va_D A [(o, .inr (0, [.ref q, .ref r, .ref d, .ref lm, .ref co])), (co, .inr (2, [.long ch, .long cl])), (lw, .inr (2, [.long vh, .long vl])), (r, .inr (2, [.long w5h, .long w5l])), (up, .inr (2, [.long uh, .long ul]))] := hD
  refine lv_aload_n hx hb dX0_findCommon_8 rfl (lv_at hl 0 rfl) ?_
  refine va_get (D := D) (ci := 0) (v := .ref co) (C := RX0) (T := TX0) (N := 5) hx hb hTB tb_X0 hown hK.1 hP 0 rfl rfl 4 (by decide) (hTB _ tb_3_8) (fun _ h9 => h9) rfl dX0_findCommon_9 ?_
  refine lv_aload_n hx hb dX0_findCommon_12 rfl (lv_at hl 2 rfl) ?_
  refine fin_v (wr := [(o, .inr (0, [.ref q, .ref r, .ref d, .ref lm, .ref co])), (r, .inr (2, [.long w5h, .long w5l])), (up, .inr (2, [.long uh, .long ul]))]) (va_runV (As := [.ref lw]) (rest := []) ⟨hx, hb, hml, hown, hTB⟩ (c_X2_copy l D cZ cI cJ co lw ch cl vh vl _) (cw_V hTB tb_10_10 tb_2_9 tb_11_1 tb_10_8 tb_10_9 nd_X2_copy rfl rfl ⟨Nat.le_of_ble_eq_true rfl, Nat.le_of_ble_eq_true rfl⟩) (pre_V (q0 := 1) hK hP hD [1, 2] rfl rfl rfl rfl) rfl rfl hl.1 rfl (lv_room (Nat.le_of_ble_eq_true rfl)) dX0_findCommon_13 ⟨Nat.le_of_ble_eq_true rfl, Nat.le_of_ble_eq_true rfl⟩) hP hD hS hA [1, 2] [0, 3, 4] rfl rfl rfl (by decide) (fun u13 H locs hc13 hP hD hS => ?_)
  obtain ⟨w13h, w13l⟩ := u13
  try dsimp only at hc13
  have hP : va_P D vwCl [(o, .inr (0, [.ref q, .ref r, .ref d, .ref lm, .ref co])), (r, .inr (2, [.long w5h, .long w5l])), (up, .inr (2, [.long uh, .long ul])), (co, .inr (2, [.long w13h, .long w13l])), (lw, .inr (2, [.long vh, .long vl]))] H := hP
  have hD : va_D A [(o, .inr (0, [.ref q, .ref r, .ref d, .ref lm, .ref co])), (r, .inr (2, [.long w5h, .long w5l])), (up, .inr (2, [.long uh, .long ul])), (co, .inr (2, [.long w13h, .long w13l])), (lw, .inr (2, [.long vh, .long vl]))] := hD
  refine lv_iconst (v := 0) hx hb dX0_findCommon_16 (by decide) ?_
  refine lv_istore_n (lv' := [(3, .int 0), (0, .ref o), (1, .ref up), (2, .ref lw)]) hx hb dX0_findCommon_17 rfl hl (by decide) rfl (fun ls hl => ?_)
  refine lv_iconst (v := 0) hx hb dX0_findCommon_18 (by decide) ?_
  refine lv_istore (lv' := [(4, .int 0), (3, .int 0), (0, .ref o), (1, .ref up), (2, .ref lw)]) hx hb dX0_findCommon_19 hl (by decide) rfl (fun ls hl => ?_)
  have L21 : ∀ (n21 : Nat) (k t a b R C : Nat) (rh2 rl2 ch2 cl2 : Int64), 254 < k + n21 ∧ k + (a + b) ≤ 254 ∧ t ≤ k → R < 2 ^ a → 0 < C → C < 2 ^ b → Nat.gcd R C * 2 ^ t = Nat.gcd ((wv uh ul).natAbs) Ln → wv rh2 rl2 = (R : Int) → wv ch2 cl2 = (C : Int) → ∀ (H : Heap) (locs : List Loc), va_P D vwCl [(o, .inr (0, [.ref q, .ref r, .ref d, .ref lm, .ref co])), (r, .inr (2, [.long rh2, .long rl2])), (co, .inr (2, [.long ch2, .long cl2])), (up, .inr (2, [.long uh, .long ul])), (lw, .inr (2, [.long vh, .long vl]))] H → va_D A [(o, .inr (0, [.ref q, .ref r, .ref d, .ref lm, .ref co])), (r, .inr (2, [.long rh2, .long rl2])), (co, .inr (2, [.long ch2, .long cl2])), (up, .inr (2, [.long uh, .long ul])), (lw, .inr (2, [.long vh, .long vl]))] → va_S A s.heap H locs → ∀ (ls : Array Slot), lv_has ls 5 [(0, .ref o), (1, .ref up), (2, .ref lw), (3, .int (nI t)), (4, .int (nI k))] → W p l e { frames := 3, cells := 0, slots := 0, locals := 64 } s m args below meth c H locs 0 0 Q (F0 m 21 ls []) := by
    intro n21
    induction n21 with
    | zero =>
      intro k t a b R C rh2 rl2 ch2 cl2 f1 f2 f3 f4 f5 f6 f7
      exfalso; omega
    | succ n21 ih21 =>
      intro k t a b R C rh2 rl2 ch2 cl2 f1 f2 f3 f4 f5 f6 f7 H locs hP hD hS ls hl
      refine lv_iload hx hb dX0_findCommon_21 (lv_at hl 4 rfl) ?_
      refine lv_sipush (v := 254) hx hb dX0_findCommon_23 (by decide) ?_
      refine lv_icmp_ge (tgt := 109) hx hb dX0_findCommon_26 (by decide) (fun c_26 => ?_) (fun c_26 => ?_)
      · exfalso
        have := (nI_leI (a := 254) (b := k) (by omega) (by omega)).mp c_26
        have ha : a = 0 := by omega
        have hb9 : b = 0 := by omega
        subst ha; subst hb9; rw [Nat.pow_zero] at f4; omega
      · refine lv_aload_n hx hb dX0_findCommon_29 rfl (lv_at hl 0 rfl) ?_
        refine va_get (D := D) (ci := 0) (v := .ref r) (C := RX0) (T := TX0) (N := 5) hx hb hTB tb_X0 hown hK.1 hP 0 rfl rfl 1 (by decide) (hTB _ tb_3_5) (fun _ h9 => h9) rfl dX0_findCommon_30 ?_
        refine vp_callSi (va_runV (As := []) (rest := []) ⟨hx, hb, hml, hown, hTB⟩ (c_X2_sign l D cZ cI cJ r rh2 rl2) (cw_V hTB tb_5_23 tb_2_9 tb_11_2 tb_5_21 tb_5_22 nd_X2_sign rfl rfl ⟨Nat.le_of_ble_eq_true rfl, Nat.le_of_ble_eq_true rfl⟩) (prr_V (q0 := 1) hK hP [1] rfl rfl rfl) rfl rfl hl.1 rfl (lv_room (Nat.le_of_ble_eq_true rfl)) dX0_findCommon_33 ⟨Nat.le_of_ble_eq_true rfl, Nat.le_of_ble_eq_true rfl⟩).run (fun r33 hc33 => ?_)
        subst hc33
        refine lv_if_eq (tgt := 109) hx hb dX0_findCommon_36 (by decide) (fun c_36 => ?_) (fun c_36 => ?_)
        · have c_36 := sg_eqt c_36
          have f8 : C * 2 ^ t = Nat.gcd ((wv uh ul).natAbs) Ln := by
            rw [f6] at c_36
            have : R = 0 := by omega
            subst this; rw [Nat.gcd_zero_left] at f5; exact f5
          refine lv_iconst (v := 0) hx hb dX0_findCommon_109 (by decide) ?_
          refine lv_istore (lv' := [(4, .int 0), (0, .ref o), (1, .ref up), (2, .ref lw), (3, .int (nI t))]) hx hb dX0_findCommon_110 hl (by decide) rfl (fun ls hl => ?_)
          have L112 : ∀ (n112 : Nat) (j : Nat) (ch3 cl3 : Int64), t < j + n112 ∧ j ≤ t → wv ch3 cl3 = ((C * 2 ^ j : Nat) : Int) → ∀ (H : Heap) (locs : List Loc), va_P D vwCl [(o, .inr (0, [.ref q, .ref r, .ref d, .ref lm, .ref co])), (r, .inr (2, [.long rh2, .long rl2])), (co, .inr (2, [.long ch3, .long cl3])), (up, .inr (2, [.long uh, .long ul])), (lw, .inr (2, [.long vh, .long vl]))] H → va_D A [(o, .inr (0, [.ref q, .ref r, .ref d, .ref lm, .ref co])), (r, .inr (2, [.long rh2, .long rl2])), (co, .inr (2, [.long ch3, .long cl3])), (up, .inr (2, [.long uh, .long ul])), (lw, .inr (2, [.long vh, .long vl]))] → va_S A s.heap H locs → ∀ (ls : Array Slot), lv_has ls 5 [(0, .ref o), (1, .ref up), (2, .ref lw), (3, .int (nI t)), (4, .int (nI j))] → W p l e { frames := 3, cells := 0, slots := 0, locals := 64 } s m args below meth c H locs 0 0 Q (F0 m 112 ls []) := by
            intro n112
            induction n112 with
            | zero =>
              intro j ch3 cl3 y1 y2
              exfalso; omega
            | succ n112 ih112 =>
              intro j ch3 cl3 y1 y2 H locs hP hD hS ls hl
              refine lv_iload hx hb dX0_findCommon_112 (lv_at hl 4 rfl) ?_
              refine lv_iload_n hx hb dX0_findCommon_114 rfl (lv_at hl 3 rfl) ?_
              refine lv_icmp_ge (tgt := 131) hx hb dX0_findCommon_115 (by decide) (fun c_115 => ?_) (fun c_115 => ?_)
              · exact hret hP hD hS ((rh2, rl2), (ch3, cl3)) (by have := (nI_leI (a := t) (b := j) (by omega) (by omega)).mp c_115; have e : j = t := (by omega); subst e; rw [← f8]; exact y2) [0, 1, 2, 3, 4] rfl (by decide) dX0_findCommon_131 (Nat.le_of_ble_eq_true rfl) (Nat.le_of_ble_eq_true rfl)
              · refine lv_aload_n hx hb dX0_findCommon_118 rfl (lv_at hl 0 rfl) ?_
                refine va_get (D := D) (ci := 0) (v := .ref co) (C := RX0) (T := TX0) (N := 5) hx hb hTB tb_X0 hown hK.1 hP 0 rfl rfl 4 (by decide) (hTB _ tb_3_8) (fun _ h9 => h9) rfl dX0_findCommon_119 ?_
                refine fin_v (wr := [(o, .inr (0, [.ref q, .ref r, .ref d, .ref lm, .ref co])), (r, .inr (2, [.long rh2, .long rl2])), (up, .inr (2, [.long uh, .long ul])), (lw, .inr (2, [.long vh, .long vl]))]) (va_runV (As := []) (rest := []) ⟨hx, hb, hml, hown, hTB⟩ (c_X2_twice l D cZ cI cJ co ch3 cl3 _) (cw_V hTB tb_11_23 tb_2_9 tb_11_20 tb_11_21 tb_11_22 nd_X2_twice rfl rfl ⟨Nat.le_of_ble_eq_true rfl, Nat.le_of_ble_eq_true rfl⟩) (pre_V (q0 := 2) hK hP hD [2] rfl rfl rfl rfl) rfl rfl hl.1 rfl (lv_room (Nat.le_of_ble_eq_true rfl)) dX0_findCommon_122 ⟨Nat.le_of_ble_eq_true rfl, Nat.le_of_ble_eq_true rfl⟩) hP hD hS hA [2] [0, 1, 3, 4] rfl rfl rfl (by decide) (fun u122 H locs hc122 hP hD hS => ?_)
                obtain ⟨w122h, w122l⟩ := u122
                try dsimp only at hc122
                have hP : va_P D vwCl [(o, .inr (0, [.ref q, .ref r, .ref d, .ref lm, .ref co])), (r, .inr (2, [.long rh2, .long rl2])), (up, .inr (2, [.long uh, .long ul])), (lw, .inr (2, [.long vh, .long vl])), (co, .inr (2, [.long w122h, .long w122l]))] H := hP
                have hD : va_D A [(o, .inr (0, [.ref q, .ref r, .ref d, .ref lm, .ref co])), (r, .inr (2, [.long rh2, .long rl2])), (up, .inr (2, [.long uh, .long ul])), (lw, .inr (2, [.long vh, .long vl])), (co, .inr (2, [.long w122h, .long w122l]))] := hD
                obtain ⟨i4_1, ei4_1⟩ : ∃ y : Int32, y = (nI j) + 1 := ⟨_, rfl⟩
                refine lv_iinc (v := i4_1) (lv' := [(4, .int i4_1), (0, .ref o), (1, .ref up), (2, .ref lw), (3, .int (nI t))]) hx hb dX0_findCommon_125 hl (k := 4) rfl (by rw [ei4_1]; rfl) (by decide) rfl (fun ls hl => ?_)
                refine lv_goto (tgt := 112) hx hb dX0_findCommon_128 (by decide) ?_
                have q9 : i4_1 = nI (j + 1) := by rw [ei4_1]; exact nI_1 j
                subst q9
                refine ih112 (j + 1) w122h w122l ?_ ?_ _ _ (hP.sub [0, 1, 4, 2, 3] rfl) (hD.sub [0, 1, 4, 2, 3] (by decide) rfl) hS _ (lv_sub hl [1, 2, 3, 4, 0] rfl)
                · have : ¬ t ≤ j := fun q => c_115 ((nI_leI (by omega) (by omega)).mpr q)
                  omega
                · rw [hc122 (by
                    have : ¬ t ≤ j := fun q => c_115 ((nI_leI (by omega) (by omega)).mpr q)
                    have h1 : C * 2 ^ (j + 1) ≤ C * 2 ^ t := Nat.mul_le_mul_left C (Nat.pow_le_pow_right (by decide) (by omega))
                    have h2 := pw_s C j
                    have h3 := Nat.gcd_le_right ((wv uh ul).natAbs) hL0
                    have h4 := wv_in vh vl
                    rw [f8] at h1
                    rw [y2]; unfold In at h4 ⊢; omega), y2, pw_s]; omega
          refine L112 (t + 1) 0 ch2 cl2 ?_ ?_ _ _ hP hD hS _ (lv_sub hl [1, 2, 3, 4, 0] rfl)
          · omega
          · rw [Nat.pow_zero, Nat.mul_one]; exact f7
        · have c_36 := sg_eqf c_36
          refine lv_aload_n hx hb dX0_findCommon_39 rfl (lv_at hl 0 rfl) ?_
          refine va_get (D := D) (ci := 0) (v := .ref r) (C := RX0) (T := TX0) (N := 5) hx hb hTB tb_X0 hown hK.1 hP 0 rfl rfl 1 (by decide) (hTB _ tb_3_5) (fun _ h9 => h9) rfl dX0_findCommon_40 ?_
          refine vp_callSi (va_runV (As := []) (rest := []) ⟨hx, hb, hml, hown, hTB⟩ (c_X2_isOdd l D cZ cI cJ r rh2 rl2) (cw_V hTB tb_11_6 tb_2_9 tb_11_3 tb_11_4 tb_11_5 nd_X2_isOdd rfl rfl ⟨Nat.le_of_ble_eq_true rfl, Nat.le_of_ble_eq_true rfl⟩) (prr_V (q0 := 1) hK hP [1] rfl rfl rfl) rfl rfl hl.1 rfl (lv_room (Nat.le_of_ble_eq_true rfl)) dX0_findCommon_43 ⟨Nat.le_of_ble_eq_true rfl, Nat.le_of_ble_eq_true rfl⟩).run (fun r43 hc43 => ?_)
          subst hc43
          refine lv_if_ne (tgt := 79) hx hb dX0_findCommon_46 (by decide) (fun c_46 => ?_) (fun c_46 => ?_)
          · have c_46 := bz_1 c_46
            refine lv_aload_n hx hb dX0_findCommon_79 rfl (lv_at hl 0 rfl) ?_
            refine va_get (D := D) (ci := 0) (v := .ref co) (C := RX0) (T := TX0) (N := 5) hx hb hTB tb_X0 hown hK.1 hP 0 rfl rfl 4 (by decide) (hTB _ tb_3_8) (fun _ h9 => h9) rfl dX0_findCommon_80 ?_
            refine vp_callSi (va_runV (As := []) (rest := []) ⟨hx, hb, hml, hown, hTB⟩ (c_X2_isOdd l D cZ cI cJ co ch2 cl2) (cw_V hTB tb_11_6 tb_2_9 tb_11_3 tb_11_4 tb_11_5 nd_X2_isOdd rfl rfl ⟨Nat.le_of_ble_eq_true rfl, Nat.le_of_ble_eq_true rfl⟩) (prr_V (q0 := 2) hK hP [2] rfl rfl rfl) rfl rfl hl.1 rfl (lv_room (Nat.le_of_ble_eq_true rfl)) dX0_findCommon_83 ⟨Nat.le_of_ble_eq_true rfl, Nat.le_of_ble_eq_true rfl⟩).run (fun r83 hc83 => ?_)
            subst hc83
            refine lv_if_ne (tgt := 99) hx hb dX0_findCommon_86 (by decide) (fun c_86 => ?_) (fun c_86 => ?_)
            · have c_86 := bz_1 c_86
              refine lv_aload_n hx hb dX0_findCommon_99 rfl (lv_at hl 0 rfl) ?_
              refine fin_v (wr := [(up, .inr (2, [.long uh, .long ul])), (lw, .inr (2, [.long vh, .long vl]))]) (va_runV (As := []) (rest := []) ⟨hx, hb, hml, hown, hTB⟩ (c_X0_takeLessFromGreater l D cZ cI cJ o q r d lm co rh2 rl2 ch2 cl2 R C f6 f7 _) (cw_V hTB tb_11_14 tb_2_5 tb_11_11 tb_11_12 tb_11_13 nd_X0_takeLessFromGreater rfl rfl ⟨Nat.le_of_ble_eq_true rfl, Nat.le_of_ble_eq_true rfl⟩) (pre_V (q0 := 0) hK hP hD [0, 1, 2] rfl rfl rfl rfl) rfl rfl hl.1 rfl (lv_room (Nat.le_of_ble_eq_true rfl)) dX0_findCommon_100 ⟨Nat.le_of_ble_eq_true rfl, Nat.le_of_ble_eq_true rfl⟩) hP hD hS hA [0, 1, 2] [3, 4] rfl rfl rfl (by decide) (fun u100 H locs hc100 hP hD hS => ?_)
              obtain ⟨⟨r3h, r3l⟩, c3h, c3l⟩ := u100
              dsimp only at hc100
              have hP : va_P D vwCl [(up, .inr (2, [.long uh, .long ul])), (lw, .inr (2, [.long vh, .long vl])), (o, .inr (0, [.ref q, .ref r, .ref d, .ref lm, .ref co])), (r, .inr (2, [.long r3h, .long r3l])), (co, .inr (2, [.long c3h, .long c3l]))] H := hP
              have hD : va_D A [(up, .inr (2, [.long uh, .long ul])), (lw, .inr (2, [.long vh, .long vl])), (o, .inr (0, [.ref q, .ref r, .ref d, .ref lm, .ref co])), (r, .inr (2, [.long r3h, .long r3l])), (co, .inr (2, [.long c3h, .long c3l]))] := hD
              obtain ⟨i4_2, ei4_2⟩ : ∃ y : Int32, y = (nI k) + 1 := ⟨_, rfl⟩
              refine lv_iinc (v := i4_2) (lv' := [(4, .int i4_2), (0, .ref o), (1, .ref up), (2, .ref lw), (3, .int (nI t))]) hx hb dX0_findCommon_103 hl (k := 4) rfl (by rw [ei4_2]; rfl) (by decide) rfl (fun ls hl => ?_)
              refine lv_goto (tgt := 21) hx hb dX0_findCommon_106 (by decide) ?_
              have q9 : i4_2 = nI (k + 1) := by rw [ei4_2]; exact nI_1 k
              subst q9
              refine ih21 (k + 1) t (if C ≤ R then a - 1 else a) (if C ≤ R then b else b - 1) (if C ≤ R then (R - C) / 2 else R) (if C ≤ R then C else (C - R) / 2) r3h r3l c3h c3l ?_ ?_ ?_ ?_ ?_ ?_ ?_ _ _ (hP.sub [2, 3, 4, 0, 1] rfl) (hD.sub [2, 3, 4, 0, 1] (by decide) rfl) hS _ (lv_sub hl [1, 2, 3, 4, 0] rfl)
              · have hk : k < 254 := by have := (nI_leI (a := 254) (b := k) (by omega) (by omega)).mpr; exact Nat.not_le.mp (fun q => c_26 (this q))
                rw [f6] at c_36 c_46
                rw [f7] at c_86
                by_cases h : C ≤ R
                · rw [if_pos h, if_pos h]; have := pw_half0 f2 (by omega); omega
                · rw [if_neg h, if_neg h]; have := pw_half0 f4 f3; omega
              · have hk : k < 254 := by have := (nI_leI (a := 254) (b := k) (by omega) (by omega)).mpr; exact Nat.not_le.mp (fun q => c_26 (this q))
                rw [f6] at c_36 c_46
                rw [f7] at c_86
                by_cases h : C ≤ R
                · rw [if_pos h, if_pos h]; have := (pw_half0 f2 (by omega)).1; omega
                · rw [if_neg h, if_neg h]; exact f2
              · have hk : k < 254 := by have := (nI_leI (a := 254) (b := k) (by omega) (by omega)).mpr; exact Nat.not_le.mp (fun q => c_26 (this q))
                rw [f6] at c_36 c_46
                rw [f7] at c_86
                by_cases h : C ≤ R
                · rw [if_pos h]; exact f3
                · rw [if_neg h]; omega
              · have hk : k < 254 := by have := (nI_leI (a := 254) (b := k) (by omega) (by omega)).mpr; exact Nat.not_le.mp (fun q => c_26 (this q))
                rw [f6] at c_36 c_46
                rw [f7] at c_86
                by_cases h : C ≤ R
                · rw [if_pos h, if_pos h]; exact f4
                · rw [if_neg h, if_neg h]; have := (pw_half0 f4 f3).1; omega
              · have hk : k < 254 := by have := (nI_leI (a := 254) (b := k) (by omega) (by omega)).mpr; exact Nat.not_le.mp (fun q => c_26 (this q))
                rw [f6] at c_36 c_46
                rw [f7] at c_86
                by_cases h : C ≤ R
                · rw [if_pos h, if_pos h, g_oo1 (by omega) (by omega) h]; exact f5
                · rw [if_neg h, if_neg h, g_oo2 (by omega) (by omega) (by omega)]; exact f5
              · exact hc100.1
              · exact hc100.2
            · have c_86 := bz_0 c_86
              refine lv_aload_n hx hb dX0_findCommon_89 rfl (lv_at hl 0 rfl) ?_
              refine va_get (D := D) (ci := 0) (v := .ref co) (C := RX0) (T := TX0) (N := 5) hx hb hTB tb_X0 hown hK.1 hP 0 rfl rfl 4 (by decide) (hTB _ tb_3_8) (fun _ h9 => h9) rfl dX0_findCommon_90 ?_
              refine fin_v (wr := [(o, .inr (0, [.ref q, .ref r, .ref d, .ref lm, .ref co])), (r, .inr (2, [.long rh2, .long rl2])), (up, .inr (2, [.long uh, .long ul])), (lw, .inr (2, [.long vh, .long vl]))]) (va_runV (As := []) (rest := []) ⟨hx, hb, hml, hown, hTB⟩ (c_X2_half l D cZ cI cJ co ch2 cl2 _) (cw_V hTB tb_11_10 tb_2_9 tb_11_7 tb_11_8 tb_11_9 nd_X2_half rfl rfl ⟨Nat.le_of_ble_eq_true rfl, Nat.le_of_ble_eq_true rfl⟩) (pre_V (q0 := 2) hK hP hD [2] rfl rfl rfl rfl) rfl rfl hl.1 rfl (lv_room (Nat.le_of_ble_eq_true rfl)) dX0_findCommon_93 ⟨Nat.le_of_ble_eq_true rfl, Nat.le_of_ble_eq_true rfl⟩) hP hD hS hA [2] [0, 1, 3, 4] rfl rfl rfl (by decide) (fun u93 H locs hc93 hP hD hS => ?_)
              obtain ⟨w93h, w93l⟩ := u93
              try dsimp only at hc93
              have hP : va_P D vwCl [(o, .inr (0, [.ref q, .ref r, .ref d, .ref lm, .ref co])), (r, .inr (2, [.long rh2, .long rl2])), (up, .inr (2, [.long uh, .long ul])), (lw, .inr (2, [.long vh, .long vl])), (co, .inr (2, [.long w93h, .long w93l]))] H := hP
              have hD : va_D A [(o, .inr (0, [.ref q, .ref r, .ref d, .ref lm, .ref co])), (r, .inr (2, [.long rh2, .long rl2])), (up, .inr (2, [.long uh, .long ul])), (lw, .inr (2, [.long vh, .long vl])), (co, .inr (2, [.long w93h, .long w93l]))] := hD
              refine lv_goto (tgt := 103) hx hb dX0_findCommon_96 (by decide) ?_
              obtain ⟨i4_3, ei4_3⟩ : ∃ y : Int32, y = (nI k) + 1 := ⟨_, rfl⟩
              refine lv_iinc (v := i4_3) (lv' := [(4, .int i4_3), (0, .ref o), (1, .ref up), (2, .ref lw), (3, .int (nI t))]) hx hb dX0_findCommon_103 hl (k := 4) rfl (by rw [ei4_3]; rfl) (by decide) rfl (fun ls hl => ?_)
              refine lv_goto (tgt := 21) hx hb dX0_findCommon_106 (by decide) ?_
              have q9 : i4_3 = nI (k + 1) := by rw [ei4_3]; exact nI_1 k
              subst q9
              refine ih21 (k + 1) t a (b - 1) R (C / 2) rh2 rl2 w93h w93l ?_ ?_ ?_ ?_ ?_ ?_ ?_ _ _ (hP.sub [0, 1, 4, 2, 3] rfl) (hD.sub [0, 1, 4, 2, 3] (by decide) rfl) hS _ (lv_sub hl [1, 2, 3, 4, 0] rfl)
              · have hk : k < 254 := by have := (nI_leI (a := 254) (b := k) (by omega) (by omega)).mpr; exact Nat.not_le.mp (fun q => c_26 (this q))
                rw [f6] at c_36 c_46
                rw [f7] at c_86; have := pw_half0 f4 (by omega); omega
              · exact f2
              · rw [f6] at c_36 c_46
                rw [f7] at c_86; omega
              · exact (pw_half0 f4 f3).1
              · rw [f6] at c_36 c_46
                rw [f7] at c_86; rw [g_oe (by omega) (by omega)]; exact f5
              · exact f6
              · rw [hc93, f7]; omega
          · have c_46 := bz_0 c_46
            refine lv_aload_n hx hb dX0_findCommon_49 rfl (lv_at hl 0 rfl) ?_
            refine va_get (D := D) (ci := 0) (v := .ref r) (C := RX0) (T := TX0) (N := 5) hx hb hTB tb_X0 hown hK.1 hP 0 rfl rfl 1 (by decide) (hTB _ tb_3_5) (fun _ h9 => h9) rfl dX0_findCommon_50 ?_
            refine fin_v (wr := [(o, .inr (0, [.ref q, .ref r, .ref d, .ref lm, .ref co])), (co, .inr (2, [.long ch2, .long cl2])), (up, .inr (2, [.long uh, .long ul])), (lw, .inr (2, [.long vh, .long vl]))]) (va_runV (As := []) (rest := []) ⟨hx, hb, hml, hown, hTB⟩ (c_X2_half l D cZ cI cJ r rh2 rl2 _) (cw_V hTB tb_11_10 tb_2_9 tb_11_7 tb_11_8 tb_11_9 nd_X2_half rfl rfl ⟨Nat.le_of_ble_eq_true rfl, Nat.le_of_ble_eq_true rfl⟩) (pre_V (q0 := 1) hK hP hD [1] rfl rfl rfl rfl) rfl rfl hl.1 rfl (lv_room (Nat.le_of_ble_eq_true rfl)) dX0_findCommon_53 ⟨Nat.le_of_ble_eq_true rfl, Nat.le_of_ble_eq_true rfl⟩) hP hD hS hA [1] [0, 2, 3, 4] rfl rfl rfl (by decide) (fun u53 H locs hc53 hP hD hS => ?_)
            obtain ⟨w53h, w53l⟩ := u53
            try dsimp only at hc53
            have hP : va_P D vwCl [(o, .inr (0, [.ref q, .ref r, .ref d, .ref lm, .ref co])), (co, .inr (2, [.long ch2, .long cl2])), (up, .inr (2, [.long uh, .long ul])), (lw, .inr (2, [.long vh, .long vl])), (r, .inr (2, [.long w53h, .long w53l]))] H := hP
            have hD : va_D A [(o, .inr (0, [.ref q, .ref r, .ref d, .ref lm, .ref co])), (co, .inr (2, [.long ch2, .long cl2])), (up, .inr (2, [.long uh, .long ul])), (lw, .inr (2, [.long vh, .long vl])), (r, .inr (2, [.long w53h, .long w53l]))] := hD
            refine lv_aload_n hx hb dX0_findCommon_56 rfl (lv_at hl 0 rfl) ?_
            refine va_get (D := D) (ci := 0) (v := .ref co) (C := RX0) (T := TX0) (N := 5) hx hb hTB tb_X0 hown hK.1 hP 0 rfl rfl 4 (by decide) (hTB _ tb_3_8) (fun _ h9 => h9) rfl dX0_findCommon_57 ?_
            refine vp_callSi (va_runV (As := []) (rest := []) ⟨hx, hb, hml, hown, hTB⟩ (c_X2_isOdd l D cZ cI cJ co ch2 cl2) (cw_V hTB tb_11_6 tb_2_9 tb_11_3 tb_11_4 tb_11_5 nd_X2_isOdd rfl rfl ⟨Nat.le_of_ble_eq_true rfl, Nat.le_of_ble_eq_true rfl⟩) (prr_V (q0 := 1) hK hP [1] rfl rfl rfl) rfl rfl hl.1 rfl (lv_room (Nat.le_of_ble_eq_true rfl)) dX0_findCommon_60 ⟨Nat.le_of_ble_eq_true rfl, Nat.le_of_ble_eq_true rfl⟩).run (fun r60 hc60 => ?_)
            subst hc60
            refine lv_if_ne (tgt := 103) hx hb dX0_findCommon_63 (by decide) (fun c_63 => ?_) (fun c_63 => ?_)
            · have c_63 := bz_1 c_63
              obtain ⟨i4_4, ei4_4⟩ : ∃ y : Int32, y = (nI k) + 1 := ⟨_, rfl⟩
              refine lv_iinc (v := i4_4) (lv' := [(4, .int i4_4), (0, .ref o), (1, .ref up), (2, .ref lw), (3, .int (nI t))]) hx hb dX0_findCommon_103 hl (k := 4) rfl (by rw [ei4_4]; rfl) (by decide) rfl (fun ls hl => ?_)
              refine lv_goto (tgt := 21) hx hb dX0_findCommon_106 (by decide) ?_
              have q9 : i4_4 = nI (k + 1) := by rw [ei4_4]; exact nI_1 k
              subst q9
              refine ih21 (k + 1) t (a - 1) b (R / 2) C w53h w53l ch2 cl2 ?_ ?_ ?_ ?_ ?_ ?_ ?_ _ _ (hP.sub [0, 4, 1, 2, 3] rfl) (hD.sub [0, 4, 1, 2, 3] (by decide) rfl) hS _ (lv_sub hl [1, 2, 3, 4, 0] rfl)
              · have hk : k < 254 := by have := (nI_leI (a := 254) (b := k) (by omega) (by omega)).mpr; exact Nat.not_le.mp (fun q => c_26 (this q))
                rw [f6] at c_36 c_46
                have := pw_half0 f2 (by omega); omega
              · rw [f6] at c_36 c_46
                exact (pw_half0 f2 (by omega)).1
              · exact f3
              · exact f4
              · rw [f6] at c_36 c_46
                rw [f7] at c_63; rw [g_eo (by omega) (by omega)]; exact f5
              · rw [hc53, f6]; omega
              · exact f7
            · have c_63 := bz_0 c_63
              refine lv_aload_n hx hb dX0_findCommon_66 rfl (lv_at hl 0 rfl) ?_
              refine va_get (D := D) (ci := 0) (v := .ref co) (C := RX0) (T := TX0) (N := 5) hx hb hTB tb_X0 hown hK.1 hP 0 rfl rfl 4 (by decide) (hTB _ tb_3_8) (fun _ h9 => h9) rfl dX0_findCommon_67 ?_
              refine fin_v (wr := [(o, .inr (0, [.ref q, .ref r, .ref d, .ref lm, .ref co])), (up, .inr (2, [.long uh, .long ul])), (lw, .inr (2, [.long vh, .long vl])), (r, .inr (2, [.long w53h, .long w53l]))]) (va_runV (As := []) (rest := []) ⟨hx, hb, hml, hown, hTB⟩ (c_X2_half l D cZ cI cJ co ch2 cl2 _) (cw_V hTB tb_11_10 tb_2_9 tb_11_7 tb_11_8 tb_11_9 nd_X2_half rfl rfl ⟨Nat.le_of_ble_eq_true rfl, Nat.le_of_ble_eq_true rfl⟩) (pre_V (q0 := 1) hK hP hD [1] rfl rfl rfl rfl) rfl rfl hl.1 rfl (lv_room (Nat.le_of_ble_eq_true rfl)) dX0_findCommon_70 ⟨Nat.le_of_ble_eq_true rfl, Nat.le_of_ble_eq_true rfl⟩) hP hD hS hA [1] [0, 2, 3, 4] rfl rfl rfl (by decide) (fun u70 H locs hc70 hP hD hS => ?_)
              obtain ⟨w70h, w70l⟩ := u70
              try dsimp only at hc70
              have hP : va_P D vwCl [(o, .inr (0, [.ref q, .ref r, .ref d, .ref lm, .ref co])), (up, .inr (2, [.long uh, .long ul])), (lw, .inr (2, [.long vh, .long vl])), (r, .inr (2, [.long w53h, .long w53l])), (co, .inr (2, [.long w70h, .long w70l]))] H := hP
              have hD : va_D A [(o, .inr (0, [.ref q, .ref r, .ref d, .ref lm, .ref co])), (up, .inr (2, [.long uh, .long ul])), (lw, .inr (2, [.long vh, .long vl])), (r, .inr (2, [.long w53h, .long w53l])), (co, .inr (2, [.long w70h, .long w70l]))] := hD
              obtain ⟨i3_5, ei3_5⟩ : ∃ y : Int32, y = (nI t) + 1 := ⟨_, rfl⟩
              refine lv_iinc (v := i3_5) (lv' := [(3, .int i3_5), (0, .ref o), (1, .ref up), (2, .ref lw), (4, .int (nI k))]) hx hb dX0_findCommon_73 hl (k := 3) rfl (by rw [ei3_5]; rfl) (by decide) rfl (fun ls hl => ?_)
              refine lv_goto (tgt := 103) hx hb dX0_findCommon_76 (by decide) ?_
              obtain ⟨i4_6, ei4_6⟩ : ∃ y : Int32, y = (nI k) + 1 := ⟨_, rfl⟩
              refine lv_iinc (v := i4_6) (lv' := [(4, .int i4_6), (3, .int i3_5), (0, .ref o), (1, .ref up), (2, .ref lw)]) hx hb dX0_findCommon_103 hl (k := 4) rfl (by rw [ei4_6]; rfl) (by decide) rfl (fun ls hl => ?_)
              refine lv_goto (tgt := 21) hx hb dX0_findCommon_106 (by decide) ?_
              have q9 : i4_6 = nI (k + 1) := by rw [ei4_6]; exact nI_1 k
              subst q9
              have q8 : i3_5 = nI (t + 1) := by rw [ei3_5]; exact nI_1 t
              subst q8
              refine ih21 (k + 1) (t + 1) (a - 1) (b - 1) (R / 2) (C / 2) w53h w53l w70h w70l ?_ ?_ ?_ ?_ ?_ ?_ ?_ _ _ (hP.sub [0, 3, 4, 1, 2] rfl) (hD.sub [0, 3, 4, 1, 2] (by decide) rfl) hS _ (lv_sub hl [2, 3, 4, 1, 0] rfl)
              · have hk : k < 254 := by have := (nI_leI (a := 254) (b := k) (by omega) (by omega)).mpr; exact Nat.not_le.mp (fun q => c_26 (this q))
                rw [f6] at c_36 c_46
                rw [f7] at c_63; have := pw_half0 f2 (by omega); have := pw_half0 f4 (by omega); omega
              · rw [f6] at c_36 c_46
                exact (pw_half0 f2 (by omega)).1
              · rw [f6] at c_36 c_46
                rw [f7] at c_63; omega
              · rw [f6] at c_36 c_46
                exact (pw_half0 f4 (by omega)).1
              · rw [f6] at c_36 c_46
                rw [f7] at c_63; rw [← f5, g_ee (R := R) (C := C) (by omega) (by omega), Nat.pow_succ]; rw [Nat.mul_comm (2 ^ t) 2, ← Nat.mul_assoc, Nat.mul_comm _ 2]
              · rw [hc53, f6]; omega
              · rw [hc70, f7]; omega
  refine L21 255 0 0 127 127 ((wv uh ul).natAbs) Ln w5h w5l w13h w13l ?_ ?_ ?_ ?_ ?_ ?_ ?_ _ _ (hP.sub [0, 1, 3, 2, 4] rfl) (hD.sub [0, 1, 3, 2, 4] (by decide) rfl) hS _ (lv_sub hl [2, 3, 4, 1, 0] rfl)
  · omega
  · rw [show 2 ^ 127 = 170141183460469231731687303715884105728 from rfl]; exact hA1
  · exact hL0
  · rw [show 2 ^ 127 = 170141183460469231731687303715884105728 from rfl]; have := wv_in vh vl; unfold In at this; omega
  · rw [Nat.pow_zero, Nat.mul_one]
  · exact hc5 (by unfold In; omega)
  · have e := congrArg (fun z : Int64 × Int64 => wv z.1 z.2) hc13
    dsimp only at e
    rw [e]; exact hL

set_option maxHeartbeats 4000000 in
set_option maxRecDepth 100000 in
theorem c_X0_takeCommonOut (l : Launch) (D : va_G) (cZ cI cJ : ClassId) (o q r d lm co nu : Nat) (qh ql rh rl dh dl mh ml ch cl nh nl : Int64) (Gn : Nat) (hG : wv ch cl = (Gn : Int)) (hG0 : 0 < Gn) (hGd : Gn ∣ (wv nh nl).natAbs) (hA1 : (wv nh nl).natAbs < 170141183460469231731687303715884105728) : Cv l D cZ cI cJ yX0_takeCommonOut cX0_takeCommonOut 3 { frames := 3, cells := 0, slots := 0, locals := 68 } [.ref o, .ref nu] [(o, .inr (0, [.ref q, .ref r, .ref d, .ref lm, .ref co])), (q, .inr (2, [.long qh, .long ql])), (r, .inr (2, [.long rh, .long rl])), (d, .inr (2, [.long dh, .long dl])), (lm, .inr (2, [.long mh, .long ml])), (co, .inr (2, [.long ch, .long cl])), (nu, .inr (2, [.long nh, .long nl]))] (S := (Int64 × Int64) × (Int64 × Int64) × (Int64 × Int64) × (Int64 × Int64) × (Int64 × Int64)) (fun u => wv u.2.2.2.2.1 u.2.2.2.2.2 = wv nh nl / (Gn : Int)) (fun u => [(o, .inr (0, [.ref q, .ref r, .ref d, .ref lm, .ref co])), (q, .inr (2, [.long u.1.1, .long u.1.2])), (r, .inr (2, [.long u.2.1.1, .long u.2.1.2])), (d, .inr (2, [.long u.2.2.1.1, .long u.2.2.1.2])), (lm, .inr (2, [.long u.2.2.2.1.1, .long u.2.2.2.1.2])), (co, .inr (2, [.long ch, .long cl])), (nu, .inr (2, [.long u.2.2.2.2.1, .long u.2.2.2.2.2]))]) := by
  refine Cv.of (by decide) ?_
  intro p e s m args below meth c A Q hB hret hP hD hA
  obtain ⟨hx, hb, hr, hlocks, hml, hown, hnm, hTB, hK⟩ := hB
  have hown : s.vm.findClass RX0 = some m.cls := hown
  have hS : va_S A s.heap s.heap [] := va_S.rf
  have hl := lv_entry ([.ref o, .ref nu]) (n := 3) (Nat.le_of_ble_eq_true rfl)
  rw [lg_entry_eq]
  generalize (lg_sl ([.ref o, .ref nu]) ++ List.replicate (3 - (lg_sl ([.ref o, .ref nu])).length) Slot.unset).toArray = ls at hl ⊢
  have hl : lv_has ls 3 [(0, .ref o), (1, .ref nu)] := hl
  refine lv_aload_n hx hb dX0_takeCommonOut_0 rfl (lv_at hl 0 rfl) ?_
  refine va_get (D := D) (ci := 0) (v := .ref co) (C := RX0) (T := TX0) (N := 5) hx hb hTB tb_X0 hown hK.1 hP 0 rfl rfl 4 (by decide) (hTB _ tb_3_8) (fun _ h9 => h9) rfl dX0_takeCommonOut_1 ?_
  refine vp_callSi (va_runV (As := []) (rest := []) ⟨hx, hb, hml, hown, hTB⟩ (c_X2_isOne l D cZ cI cJ co ch cl) (cw_V hTB tb_12_7 tb_2_9 tb_12_4 tb_12_5 tb_12_6 nd_X2_isOne rfl rfl ⟨Nat.le_of_ble_eq_true rfl, Nat.le_of_ble_eq_true rfl⟩) (prr_V (q0 := 5) hK hP [5] rfl rfl rfl) rfl rfl hl.1 rfl (lv_room (Nat.le_of_ble_eq_true rfl)) dX0_takeCommonOut_4 ⟨Nat.le_of_ble_eq_true rfl, Nat.le_of_ble_eq_true rfl⟩).run (fun r4 hc4 => ?_)
  subst hc4
  refine lv_if_eq (tgt := 11) hx hb dX0_takeCommonOut_7 (by decide) (fun c_7 => ?_) (fun c_7 => ?_)
  · have c_7 := bz_0 c_7
    refine lv_aload_n hx hb dX0_takeCommonOut_11 rfl (lv_at hl 1 rfl) ?_
    refine vp_callSi (va_runV (As := []) (rest := []) ⟨hx, hb, hml, hown, hTB⟩ (c_X2_sign l D cZ cI cJ nu nh nl) (cw_V hTB tb_5_23 tb_2_9 tb_11_2 tb_5_21 tb_5_22 nd_X2_sign rfl rfl ⟨Nat.le_of_ble_eq_true rfl, Nat.le_of_ble_eq_true rfl⟩) (prr_V (q0 := 6) hK hP [6] rfl rfl rfl) rfl rfl hl.1 rfl (lv_room (Nat.le_of_ble_eq_true rfl)) dX0_takeCommonOut_12 ⟨Nat.le_of_ble_eq_true rfl, Nat.le_of_ble_eq_true rfl⟩).run (fun r12 hc12 => ?_)
    subst hc12
    have J23 : ∀ (x : Int32), x = bz (wv nh nl < 0) → ∀ (H : Heap) (locs : List Loc), va_P D vwCl [(o, .inr (0, [.ref q, .ref r, .ref d, .ref lm, .ref co])), (q, .inr (2, [.long qh, .long ql])), (r, .inr (2, [.long rh, .long rl])), (d, .inr (2, [.long dh, .long dl])), (lm, .inr (2, [.long mh, .long ml])), (co, .inr (2, [.long ch, .long cl])), (nu, .inr (2, [.long nh, .long nl]))] H → va_D A [(o, .inr (0, [.ref q, .ref r, .ref d, .ref lm, .ref co])), (q, .inr (2, [.long qh, .long ql])), (r, .inr (2, [.long rh, .long rl])), (d, .inr (2, [.long dh, .long dl])), (lm, .inr (2, [.long mh, .long ml])), (co, .inr (2, [.long ch, .long cl])), (nu, .inr (2, [.long nh, .long nl]))] → va_S A s.heap H locs → ∀ (ls : Array Slot), lv_has ls 3 [(0, .ref o), (1, .ref nu)] → W p l e { frames := 3, cells := 0, slots := 0, locals := 68 } s m args below meth c H locs 0 0 Q (F0 m 23 ls [.int x]) := by
      intro x g1 H locs hP hD hS ls hl
      subst g1
      refine lv_istore_n (lv' := [(2, .int (bz (wv nh nl < 0))), (0, .ref o), (1, .ref nu)]) hx hb dX0_takeCommonOut_23 rfl hl (by decide) rfl (fun ls hl => ?_)
      refine lv_aload_n hx hb dX0_takeCommonOut_24 rfl (lv_at hl 1 rfl) ?_
      refine lv_aload_n hx hb dX0_takeCommonOut_25 rfl (lv_at hl 2 rfl) ?_
      refine lv_aload_n hx hb dX0_takeCommonOut_26 rfl (lv_at hl 1 rfl) ?_
      refine va_get (D := D) (ci := 0) (v := .ref co) (C := RX0) (T := TX0) (N := 5) hx hb hTB tb_X0 hown hK.1 hP 0 rfl rfl 4 (by decide) (hTB _ tb_3_8) (fun _ h9 => h9) rfl dX0_takeCommonOut_27 ?_
      refine fin_v (wr := []) (va_runV (As := [.ref nu, .ref co]) (rest := []) ⟨hx, hb, hml, hown, hTB⟩ (c_X0_divideAmounts l D cZ cI cJ o q r d lm co nu co qh ql rh rl dh dl mh ml nh nl ch cl ((wv nh nl).natAbs) Gn rfl (by omega) hG0 hA1 (by have := wv_in ch cl; unfold In at this; omega) _) (cw_V hTB tb_12_11 tb_2_5 tb_12_8 tb_12_9 tb_12_10 nd_X0_divideAmounts rfl rfl ⟨Nat.le_of_ble_eq_true rfl, Nat.le_of_ble_eq_true rfl⟩) (pre_V (q0 := 0) hK hP hD [0, 1, 2, 3, 4, 6, 5] rfl rfl rfl rfl) rfl rfl hl.1 rfl (lv_room (Nat.le_of_ble_eq_true rfl)) dX0_takeCommonOut_30 ⟨Nat.le_of_ble_eq_true rfl, Nat.le_of_ble_eq_true rfl⟩) hP hD hS hA [0, 1, 2, 3, 4, 6, 5] [] rfl rfl rfl (by decide) (fun u30 H locs hc30 hP hD hS => ?_)
      obtain ⟨⟨q2h, q2l⟩, ⟨r2h, r2l⟩, ⟨d2h, d2l⟩, m2h, m2l⟩ := u30
      dsimp only at hc30
      obtain ⟨eq, er, ed⟩ := hc30
      have hP : va_P D vwCl [(o, .inr (0, [.ref q, .ref r, .ref d, .ref lm, .ref co])), (q, .inr (2, [.long q2h, .long q2l])), (r, .inr (2, [.long r2h, .long r2l])), (d, .inr (2, [.long d2h, .long d2l])), (lm, .inr (2, [.long m2h, .long m2l])), (nu, .inr (2, [.long nh, .long nl])), (co, .inr (2, [.long ch, .long cl]))] H := hP
      have hD : va_D A [(o, .inr (0, [.ref q, .ref r, .ref d, .ref lm, .ref co])), (q, .inr (2, [.long q2h, .long q2l])), (r, .inr (2, [.long r2h, .long r2l])), (d, .inr (2, [.long d2h, .long d2l])), (lm, .inr (2, [.long m2h, .long m2l])), (nu, .inr (2, [.long nh, .long nl])), (co, .inr (2, [.long ch, .long cl]))] := hD
      refine lv_aload_n hx hb dX0_takeCommonOut_33 rfl (lv_at hl 2 rfl) ?_
      refine lv_aload_n hx hb dX0_takeCommonOut_34 rfl (lv_at hl 1 rfl) ?_
      refine va_get (D := D) (ci := 0) (v := .ref q) (C := RX0) (T := TX0) (N := 5) hx hb hTB tb_X0 hown hK.1 hP 0 rfl rfl 0 (by decide) (hTB _ tb_3_4) (fun _ h9 => h9) rfl dX0_takeCommonOut_35 ?_
      refine fin_v (wr := [(o, .inr (0, [.ref q, .ref r, .ref d, .ref lm, .ref co])), (r, .inr (2, [.long r2h, .long r2l])), (d, .inr (2, [.long d2h, .long d2l])), (lm, .inr (2, [.long m2h, .long m2l])), (co, .inr (2, [.long ch, .long cl]))]) (va_runV (As := [.ref q]) (rest := []) ⟨hx, hb, hml, hown, hTB⟩ (c_X2_copy l D cZ cI cJ nu q nh nl q2h q2l _) (cw_V hTB tb_10_10 tb_2_9 tb_11_1 tb_10_8 tb_10_9 nd_X2_copy rfl rfl ⟨Nat.le_of_ble_eq_true rfl, Nat.le_of_ble_eq_true rfl⟩) (pre_V (q0 := 5) hK hP hD [5, 1] rfl rfl rfl rfl) rfl rfl hl.1 rfl (lv_room (Nat.le_of_ble_eq_true rfl)) dX0_takeCommonOut_38 ⟨Nat.le_of_ble_eq_true rfl, Nat.le_of_ble_eq_true rfl⟩) hP hD hS hA [5, 1] [0, 2, 3, 4, 6] rfl rfl rfl (by decide) (fun u38 H locs hc38 hP hD hS => ?_)
      obtain ⟨w38h, w38l⟩ := u38
      try dsimp only at hc38
      have hP : va_P D vwCl [(o, .inr (0, [.ref q, .ref r, .ref d, .ref lm, .ref co])), (r, .inr (2, [.long r2h, .long r2l])), (d, .inr (2, [.long d2h, .long d2l])), (lm, .inr (2, [.long m2h, .long m2l])), (co, .inr (2, [.long ch, .long cl])), (nu, .inr (2, [.long w38h, .long w38l])), (q, .inr (2, [.long q2h, .long q2l]))] H := hP
      have hD : va_D A [(o, .inr (0, [.ref q, .ref r, .ref d, .ref lm, .ref co])), (r, .inr (2, [.long r2h, .long r2l])), (d, .inr (2, [.long d2h, .long d2l])), (lm, .inr (2, [.long m2h, .long m2l])), (co, .inr (2, [.long ch, .long cl])), (nu, .inr (2, [.long w38h, .long w38l])), (q, .inr (2, [.long q2h, .long q2l]))] := hD
      have e38 : wv w38h w38l = (((wv nh nl).natAbs / Gn : Nat) : Int) := by
        have e := congrArg (fun z : Int64 × Int64 => wv z.1 z.2) hc38
        dsimp only at e
        rw [e]; exact eq
      refine lv_iload_n hx hb dX0_takeCommonOut_41 rfl (lv_at hl 0 rfl) ?_
      refine lv_if_eq (tgt := 49) hx hb dX0_takeCommonOut_42 (by decide) (fun c_42 => ?_) (fun c_42 => ?_)
      · have c_42 := bz_0 c_42
        exact hret hP hD hS ((q2h, q2l), (r2h, r2l), (d2h, d2l), (m2h, m2l), (w38h, w38l)) (by have := Nat.div_le_self (wv nh nl).natAbs Gn; dsimp only; rw [e38, exd0 hG0 (by omega)]) [0, 6, 1, 2, 3, 4, 5] rfl (by decide) dX0_takeCommonOut_49 (Nat.le_of_ble_eq_true rfl) (Nat.le_of_ble_eq_true rfl)
      · have c_42 := bz_1 c_42
        refine lv_aload_n hx hb dX0_takeCommonOut_45 rfl (lv_at hl 2 rfl) ?_
        refine fin_v (wr := [(o, .inr (0, [.ref q, .ref r, .ref d, .ref lm, .ref co])), (r, .inr (2, [.long r2h, .long r2l])), (d, .inr (2, [.long d2h, .long d2l])), (lm, .inr (2, [.long m2h, .long m2l])), (co, .inr (2, [.long ch, .long cl])), (q, .inr (2, [.long q2h, .long q2l]))]) (va_runV (As := []) (rest := []) ⟨hx, hb, hml, hown, hTB⟩ (c_X2_negate l D cZ cI cJ nu w38h w38l _) (cw_V hTB tb_9_14 tb_2_9 tb_12_17 tb_9_12 tb_9_13 nd_X2_negate rfl rfl ⟨Nat.le_of_ble_eq_true rfl, Nat.le_of_ble_eq_true rfl⟩) (pre_V (q0 := 5) hK hP hD [5] rfl rfl rfl rfl) rfl rfl hl.1 rfl (lv_room (Nat.le_of_ble_eq_true rfl)) dX0_takeCommonOut_46 ⟨Nat.le_of_ble_eq_true rfl, Nat.le_of_ble_eq_true rfl⟩) hP hD hS hA [5] [0, 1, 2, 3, 4, 6] rfl rfl rfl (by decide) (fun u46 H locs hc46 hP hD hS => ?_)
        obtain ⟨w46h, w46l⟩ := u46
        try dsimp only at hc46
        have hP : va_P D vwCl [(o, .inr (0, [.ref q, .ref r, .ref d, .ref lm, .ref co])), (r, .inr (2, [.long r2h, .long r2l])), (d, .inr (2, [.long d2h, .long d2l])), (lm, .inr (2, [.long m2h, .long m2l])), (co, .inr (2, [.long ch, .long cl])), (q, .inr (2, [.long q2h, .long q2l])), (nu, .inr (2, [.long w46h, .long w46l]))] H := hP
        have hD : va_D A [(o, .inr (0, [.ref q, .ref r, .ref d, .ref lm, .ref co])), (r, .inr (2, [.long r2h, .long r2l])), (d, .inr (2, [.long d2h, .long d2l])), (lm, .inr (2, [.long m2h, .long m2l])), (co, .inr (2, [.long ch, .long cl])), (q, .inr (2, [.long q2h, .long q2l])), (nu, .inr (2, [.long w46h, .long w46l]))] := hD
        exact hret hP hD hS ((q2h, q2l), (r2h, r2l), (d2h, d2l), (m2h, m2l), (w46h, w46l)) (by have := Nat.div_le_self (wv nh nl).natAbs Gn; dsimp only; have hx9 := exd1 hGd hG0 c_42; generalize hk9 : (wv nh nl).natAbs / Gn = k9 at *; rw [hc46 (by rw [e38]; unfold In; omega), e38, hx9]) [0, 5, 1, 2, 3, 4, 6] rfl (by decide) dX0_takeCommonOut_49 (Nat.le_of_ble_eq_true rfl) (Nat.le_of_ble_eq_true rfl)
    refine lv_if_ge (tgt := 22) hx hb dX0_takeCommonOut_15 (by decide) (fun c_15 => ?_) (fun c_15 => ?_)
    · have c_15 := sg_get c_15
      refine lv_iconst (v := 0) hx hb dX0_takeCommonOut_22 (by decide) ?_
      refine J23 0 ?_ _ _ hP hD hS _ (lv_sub hl [0, 1] rfl)
      · exact bz_f (by omega)
    · have c_15 := sg_gef c_15
      refine lv_iconst (v := 1) hx hb dX0_takeCommonOut_18 (by decide) ?_
      refine lv_goto (tgt := 23) hx hb dX0_takeCommonOut_19 (by decide) ?_
      refine J23 1 ?_ _ _ hP hD hS _ (lv_sub hl [0, 1] rfl)
      · exact bz_t c_15
  · have c_7 := bz_1 c_7
    exact hret hP hD hS ((qh, ql), (rh, rl), (dh, dl), (mh, ml), (nh, nl)) (by rw [hG] at c_7; dsimp only; rw [show Gn = 1 from (by omega)]; omega) [0, 1, 2, 3, 4, 5, 6] rfl (by decide) dX0_takeCommonOut_10 (Nat.le_of_ble_eq_true rfl) (Nat.le_of_ble_eq_true rfl)

set_option maxHeartbeats 4000000 in
set_option maxRecDepth 100000 in
theorem c_X0_init (l : Launch) (D : va_G) (cZ cI cJ : ClassId) (o : Nat) : Cv l D cZ cI cJ yX0_init cX0_init 1 { frames := 2, cells := 5, slots := 10, locals := 32 } [.ref o] [(o, .inr (0, [.null, .null, .null, .null, .null]))] (S := Nat × Nat × Nat × Nat × Nat) (fun u => True) (fun u => [(o, .inr (0, [.ref u.1, .ref u.2.1, .ref u.2.2.1, .ref u.2.2.2.1, .ref u.2.2.2.2])), (u.1, .inr (2, [.long 0, .long 0])), (u.2.1, .inr (2, [.long 0, .long 0])), (u.2.2.1, .inr (2, [.long 0, .long 0])), (u.2.2.2.1, .inr (2, [.long 0, .long 0])), (u.2.2.2.2, .inr (2, [.long 0, .long 0]))]) := by
  refine Cv.of (by decide) ?_
  intro p e s m args below meth c A Q hB hret hP hD hA
  obtain ⟨hx, hb, hr, hlocks, hml, hown, hnm, hTB, hK⟩ := hB
  have hown : s.vm.findClass RX0 = some m.cls := hown
  have hS : va_S A s.heap s.heap [] := va_S.rf
  have hl := lv_entry ([.ref o]) (n := 1) (Nat.le_of_ble_eq_true rfl)
  rw [lg_entry_eq]
  generalize (lg_sl ([.ref o]) ++ List.replicate (1 - (lg_sl ([.ref o])).length) Slot.unset).toArray = ls at hl ⊢
  have hl : lv_has ls 1 [(0, .ref o)] := hl
  refine lv_aload_n hx hb dX0_init_0 rfl (lv_at hl 0 rfl) ?_
  refine W.objInit hx hb hown (hTB _ tb_3_2) (hTB _ tb_1_12) (hTB _ tb_1_13) rfl (by rw [hml]; exact hl.1) rfl dX0_init_1 (Nat.le_of_ble_eq_true rfl) (Nat.le_of_ble_eq_true rfl) ?_
  refine W.eq (g2 := F0 m 4 ls []) rfl ?_
  refine lv_aload_n hx hb dX0_init_4 rfl (lv_at hl 0 rfl) ?_
  refine va_new (D := D) (ci := 2) (fs := [.long 0, .long 0]) (C := RX2) (T := TX2) (N := 2) hx hb hTB tb_X2 tyX2 tyX2_ok hown (hTB _ tb_3_3) (hTB _ tb_2_8) (hTB _ tb_2_9) hK.1 hP hD hS hA rfl (fun j hj => by rcases (show j = 0 ∨ j = 1 by omega) with rfl | rfl <;> rfl) (Nat.le_of_ble_eq_true rfl) (Nat.le_of_ble_eq_true rfl) dX0_init_5 (fun n5 H hP hD hS => ?_)
  have hP : va_P D vwCl [(o, .inr (0, [.null, .null, .null, .null, .null])), (n5, .inr (2, [.long 0, .long 0]))] H := hP
  have hD : va_D A [(o, .inr (0, [.null, .null, .null, .null, .null])), (n5, .inr (2, [.long 0, .long 0]))] := hD
  refine W.widen (k := 1) (n := 2) (by decide) (by decide) ?_
  refine lv_dup hx hb dX0_init_8 rfl ?_
  refine fin_v (wr := [(o, .inr (0, [.null, .null, .null, .null, .null]))]) (va_runIN (As := []) (rest := [.ref n5, .ref o]) ⟨hx, hb, hml, hown, hTB⟩ (c_X2_init l D cZ cI cJ n5 0 0 _) (cw_IN hTB hK tb_2_22 tb_2_9 nw_3 tb_2_21 rfl nd_X2_init rfl rfl ⟨Nat.le_of_ble_eq_true rfl, Nat.le_of_ble_eq_true rfl⟩) (pre_S hK hP hD [1] rfl rfl) rfl rfl hl.1 rfl (lv_room (Nat.le_of_ble_eq_true rfl)) dX0_init_9 ⟨Nat.le_of_ble_eq_true rfl, Nat.le_of_ble_eq_true rfl⟩) hP hD hS hA [1] [0] rfl rfl rfl (by decide) (fun u9 H locs hc9 hP hD hS => ?_)
  subst hc9
  have hP : va_P D vwCl [(o, .inr (0, [.null, .null, .null, .null, .null])), (n5, .inr (2, [.long 0, .long 0]))] H := hP
  have hD : va_D A [(o, .inr (0, [.null, .null, .null, .null, .null])), (n5, .inr (2, [.long 0, .long 0]))] := hD
  refine va_putF (D := D) (ci := 0) (v := .ref n5) (ty := .object "GridSums$Wide") (C := RX0) (T := TX0) (N := 5) hx hb hTB tb_X0 tyX0 tyX0_ok nmX0 hown hK.1 hP hD hS 0 rfl rfl 0 (by decide) (hTB _ tb_3_4) (fun _ h9 => h9) rfl hnm rfl (by decide +kernel) rfl rfl (Nat.le_of_ble_eq_true rfl) dX0_init_12 (fun H locs hP hD hS => ?_)
  have hP : va_P D vwCl [(o, .inr (0, [.ref n5, .null, .null, .null, .null])), (n5, .inr (2, [.long 0, .long 0]))] H := hP
  have hD : va_D A [(o, .inr (0, [.ref n5, .null, .null, .null, .null])), (n5, .inr (2, [.long 0, .long 0]))] := hD
  refine lv_aload_n hx hb dX0_init_15 rfl (lv_at hl 0 rfl) ?_
  refine va_new (D := D) (ci := 2) (fs := [.long 0, .long 0]) (C := RX2) (T := TX2) (N := 2) hx hb hTB tb_X2 tyX2 tyX2_ok hown (hTB _ tb_3_3) (hTB _ tb_2_8) (hTB _ tb_2_9) hK.1 hP hD hS hA rfl (fun j hj => by rcases (show j = 0 ∨ j = 1 by omega) with rfl | rfl <;> rfl) (Nat.le_of_ble_eq_true rfl) (Nat.le_of_ble_eq_true rfl) dX0_init_16 (fun n16 H hP hD hS => ?_)
  have hP : va_P D vwCl [(o, .inr (0, [.ref n5, .null, .null, .null, .null])), (n5, .inr (2, [.long 0, .long 0])), (n16, .inr (2, [.long 0, .long 0]))] H := hP
  have hD : va_D A [(o, .inr (0, [.ref n5, .null, .null, .null, .null])), (n5, .inr (2, [.long 0, .long 0])), (n16, .inr (2, [.long 0, .long 0]))] := hD
  refine W.widen (k := 2) (n := 4) (by decide) (by decide) ?_
  refine lv_dup hx hb dX0_init_19 rfl ?_
  refine fin_v (wr := [(o, .inr (0, [.ref n5, .null, .null, .null, .null])), (n5, .inr (2, [.long 0, .long 0]))]) (va_runIN (As := []) (rest := [.ref n16, .ref o]) ⟨hx, hb, hml, hown, hTB⟩ (c_X2_init l D cZ cI cJ n16 0 0 _) (cw_IN hTB hK tb_2_22 tb_2_9 nw_3 tb_2_21 rfl nd_X2_init rfl rfl ⟨Nat.le_of_ble_eq_true rfl, Nat.le_of_ble_eq_true rfl⟩) (pre_S hK hP hD [2] rfl rfl) rfl rfl hl.1 rfl (lv_room (Nat.le_of_ble_eq_true rfl)) dX0_init_20 ⟨Nat.le_of_ble_eq_true rfl, Nat.le_of_ble_eq_true rfl⟩) hP hD hS hA [2] [0, 1] rfl rfl rfl (by decide) (fun u20 H locs hc20 hP hD hS => ?_)
  subst hc20
  have hP : va_P D vwCl [(o, .inr (0, [.ref n5, .null, .null, .null, .null])), (n5, .inr (2, [.long 0, .long 0])), (n16, .inr (2, [.long 0, .long 0]))] H := hP
  have hD : va_D A [(o, .inr (0, [.ref n5, .null, .null, .null, .null])), (n5, .inr (2, [.long 0, .long 0])), (n16, .inr (2, [.long 0, .long 0]))] := hD
  refine va_putF (D := D) (ci := 0) (v := .ref n16) (ty := .object "GridSums$Wide") (C := RX0) (T := TX0) (N := 5) hx hb hTB tb_X0 tyX0 tyX0_ok nmX0 hown hK.1 hP hD hS 0 rfl rfl 1 (by decide) (hTB _ tb_3_5) (fun _ h9 => h9) rfl hnm rfl (by decide +kernel) rfl rfl (Nat.le_of_ble_eq_true rfl) dX0_init_23 (fun H locs hP hD hS => ?_)
  have hP : va_P D vwCl [(o, .inr (0, [.ref n5, .ref n16, .null, .null, .null])), (n5, .inr (2, [.long 0, .long 0])), (n16, .inr (2, [.long 0, .long 0]))] H := hP
  have hD : va_D A [(o, .inr (0, [.ref n5, .ref n16, .null, .null, .null])), (n5, .inr (2, [.long 0, .long 0])), (n16, .inr (2, [.long 0, .long 0]))] := hD
  refine lv_aload_n hx hb dX0_init_26 rfl (lv_at hl 0 rfl) ?_
  refine va_new (D := D) (ci := 2) (fs := [.long 0, .long 0]) (C := RX2) (T := TX2) (N := 2) hx hb hTB tb_X2 tyX2 tyX2_ok hown (hTB _ tb_3_3) (hTB _ tb_2_8) (hTB _ tb_2_9) hK.1 hP hD hS hA rfl (fun j hj => by rcases (show j = 0 ∨ j = 1 by omega) with rfl | rfl <;> rfl) (Nat.le_of_ble_eq_true rfl) (Nat.le_of_ble_eq_true rfl) dX0_init_27 (fun n27 H hP hD hS => ?_)
  have hP : va_P D vwCl [(o, .inr (0, [.ref n5, .ref n16, .null, .null, .null])), (n5, .inr (2, [.long 0, .long 0])), (n16, .inr (2, [.long 0, .long 0])), (n27, .inr (2, [.long 0, .long 0]))] H := hP
  have hD : va_D A [(o, .inr (0, [.ref n5, .ref n16, .null, .null, .null])), (n5, .inr (2, [.long 0, .long 0])), (n16, .inr (2, [.long 0, .long 0])), (n27, .inr (2, [.long 0, .long 0]))] := hD
  refine W.widen (k := 3) (n := 6) (by decide) (by decide) ?_
  refine lv_dup hx hb dX0_init_30 rfl ?_
  refine fin_v (wr := [(o, .inr (0, [.ref n5, .ref n16, .null, .null, .null])), (n5, .inr (2, [.long 0, .long 0])), (n16, .inr (2, [.long 0, .long 0]))]) (va_runIN (As := []) (rest := [.ref n27, .ref o]) ⟨hx, hb, hml, hown, hTB⟩ (c_X2_init l D cZ cI cJ n27 0 0 _) (cw_IN hTB hK tb_2_22 tb_2_9 nw_3 tb_2_21 rfl nd_X2_init rfl rfl ⟨Nat.le_of_ble_eq_true rfl, Nat.le_of_ble_eq_true rfl⟩) (pre_S hK hP hD [3] rfl rfl) rfl rfl hl.1 rfl (lv_room (Nat.le_of_ble_eq_true rfl)) dX0_init_31 ⟨Nat.le_of_ble_eq_true rfl, Nat.le_of_ble_eq_true rfl⟩) hP hD hS hA [3] [0, 1, 2] rfl rfl rfl (by decide) (fun u31 H locs hc31 hP hD hS => ?_)
  subst hc31
  have hP : va_P D vwCl [(o, .inr (0, [.ref n5, .ref n16, .null, .null, .null])), (n5, .inr (2, [.long 0, .long 0])), (n16, .inr (2, [.long 0, .long 0])), (n27, .inr (2, [.long 0, .long 0]))] H := hP
  have hD : va_D A [(o, .inr (0, [.ref n5, .ref n16, .null, .null, .null])), (n5, .inr (2, [.long 0, .long 0])), (n16, .inr (2, [.long 0, .long 0])), (n27, .inr (2, [.long 0, .long 0]))] := hD
  refine va_putF (D := D) (ci := 0) (v := .ref n27) (ty := .object "GridSums$Wide") (C := RX0) (T := TX0) (N := 5) hx hb hTB tb_X0 tyX0 tyX0_ok nmX0 hown hK.1 hP hD hS 0 rfl rfl 2 (by decide) (hTB _ tb_3_6) (fun _ h9 => h9) rfl hnm rfl (by decide +kernel) rfl rfl (Nat.le_of_ble_eq_true rfl) dX0_init_34 (fun H locs hP hD hS => ?_)
  have hP : va_P D vwCl [(o, .inr (0, [.ref n5, .ref n16, .ref n27, .null, .null])), (n5, .inr (2, [.long 0, .long 0])), (n16, .inr (2, [.long 0, .long 0])), (n27, .inr (2, [.long 0, .long 0]))] H := hP
  have hD : va_D A [(o, .inr (0, [.ref n5, .ref n16, .ref n27, .null, .null])), (n5, .inr (2, [.long 0, .long 0])), (n16, .inr (2, [.long 0, .long 0])), (n27, .inr (2, [.long 0, .long 0]))] := hD
  refine lv_aload_n hx hb dX0_init_37 rfl (lv_at hl 0 rfl) ?_
  refine va_new (D := D) (ci := 2) (fs := [.long 0, .long 0]) (C := RX2) (T := TX2) (N := 2) hx hb hTB tb_X2 tyX2 tyX2_ok hown (hTB _ tb_3_3) (hTB _ tb_2_8) (hTB _ tb_2_9) hK.1 hP hD hS hA rfl (fun j hj => by rcases (show j = 0 ∨ j = 1 by omega) with rfl | rfl <;> rfl) (Nat.le_of_ble_eq_true rfl) (Nat.le_of_ble_eq_true rfl) dX0_init_38 (fun n38 H hP hD hS => ?_)
  have hP : va_P D vwCl [(o, .inr (0, [.ref n5, .ref n16, .ref n27, .null, .null])), (n5, .inr (2, [.long 0, .long 0])), (n16, .inr (2, [.long 0, .long 0])), (n27, .inr (2, [.long 0, .long 0])), (n38, .inr (2, [.long 0, .long 0]))] H := hP
  have hD : va_D A [(o, .inr (0, [.ref n5, .ref n16, .ref n27, .null, .null])), (n5, .inr (2, [.long 0, .long 0])), (n16, .inr (2, [.long 0, .long 0])), (n27, .inr (2, [.long 0, .long 0])), (n38, .inr (2, [.long 0, .long 0]))] := hD
  refine W.widen (k := 4) (n := 8) (by decide) (by decide) ?_
  refine lv_dup hx hb dX0_init_41 rfl ?_
  refine fin_v (wr := [(o, .inr (0, [.ref n5, .ref n16, .ref n27, .null, .null])), (n5, .inr (2, [.long 0, .long 0])), (n16, .inr (2, [.long 0, .long 0])), (n27, .inr (2, [.long 0, .long 0]))]) (va_runIN (As := []) (rest := [.ref n38, .ref o]) ⟨hx, hb, hml, hown, hTB⟩ (c_X2_init l D cZ cI cJ n38 0 0 _) (cw_IN hTB hK tb_2_22 tb_2_9 nw_3 tb_2_21 rfl nd_X2_init rfl rfl ⟨Nat.le_of_ble_eq_true rfl, Nat.le_of_ble_eq_true rfl⟩) (pre_S hK hP hD [4] rfl rfl) rfl rfl hl.1 rfl (lv_room (Nat.le_of_ble_eq_true rfl)) dX0_init_42 ⟨Nat.le_of_ble_eq_true rfl, Nat.le_of_ble_eq_true rfl⟩) hP hD hS hA [4] [0, 1, 2, 3] rfl rfl rfl (by decide) (fun u42 H locs hc42 hP hD hS => ?_)
  subst hc42
  have hP : va_P D vwCl [(o, .inr (0, [.ref n5, .ref n16, .ref n27, .null, .null])), (n5, .inr (2, [.long 0, .long 0])), (n16, .inr (2, [.long 0, .long 0])), (n27, .inr (2, [.long 0, .long 0])), (n38, .inr (2, [.long 0, .long 0]))] H := hP
  have hD : va_D A [(o, .inr (0, [.ref n5, .ref n16, .ref n27, .null, .null])), (n5, .inr (2, [.long 0, .long 0])), (n16, .inr (2, [.long 0, .long 0])), (n27, .inr (2, [.long 0, .long 0])), (n38, .inr (2, [.long 0, .long 0]))] := hD
  refine va_putF (D := D) (ci := 0) (v := .ref n38) (ty := .object "GridSums$Wide") (C := RX0) (T := TX0) (N := 5) hx hb hTB tb_X0 tyX0 tyX0_ok nmX0 hown hK.1 hP hD hS 0 rfl rfl 3 (by decide) (hTB _ tb_3_7) (fun _ h9 => h9) rfl hnm rfl (by decide +kernel) rfl rfl (Nat.le_of_ble_eq_true rfl) dX0_init_45 (fun H locs hP hD hS => ?_)
  have hP : va_P D vwCl [(o, .inr (0, [.ref n5, .ref n16, .ref n27, .ref n38, .null])), (n5, .inr (2, [.long 0, .long 0])), (n16, .inr (2, [.long 0, .long 0])), (n27, .inr (2, [.long 0, .long 0])), (n38, .inr (2, [.long 0, .long 0]))] H := hP
  have hD : va_D A [(o, .inr (0, [.ref n5, .ref n16, .ref n27, .ref n38, .null])), (n5, .inr (2, [.long 0, .long 0])), (n16, .inr (2, [.long 0, .long 0])), (n27, .inr (2, [.long 0, .long 0])), (n38, .inr (2, [.long 0, .long 0]))] := hD
  refine lv_aload_n hx hb dX0_init_48 rfl (lv_at hl 0 rfl) ?_
  refine va_new (D := D) (ci := 2) (fs := [.long 0, .long 0]) (C := RX2) (T := TX2) (N := 2) hx hb hTB tb_X2 tyX2 tyX2_ok hown (hTB _ tb_3_3) (hTB _ tb_2_8) (hTB _ tb_2_9) hK.1 hP hD hS hA rfl (fun j hj => by rcases (show j = 0 ∨ j = 1 by omega) with rfl | rfl <;> rfl) (Nat.le_of_ble_eq_true rfl) (Nat.le_of_ble_eq_true rfl) dX0_init_49 (fun n49 H hP hD hS => ?_)
  have hP : va_P D vwCl [(o, .inr (0, [.ref n5, .ref n16, .ref n27, .ref n38, .null])), (n5, .inr (2, [.long 0, .long 0])), (n16, .inr (2, [.long 0, .long 0])), (n27, .inr (2, [.long 0, .long 0])), (n38, .inr (2, [.long 0, .long 0])), (n49, .inr (2, [.long 0, .long 0]))] H := hP
  have hD : va_D A [(o, .inr (0, [.ref n5, .ref n16, .ref n27, .ref n38, .null])), (n5, .inr (2, [.long 0, .long 0])), (n16, .inr (2, [.long 0, .long 0])), (n27, .inr (2, [.long 0, .long 0])), (n38, .inr (2, [.long 0, .long 0])), (n49, .inr (2, [.long 0, .long 0]))] := hD
  refine W.widen (k := 5) (n := 10) (by decide) (by decide) ?_
  refine lv_dup hx hb dX0_init_52 rfl ?_
  refine fin_v (wr := [(o, .inr (0, [.ref n5, .ref n16, .ref n27, .ref n38, .null])), (n5, .inr (2, [.long 0, .long 0])), (n16, .inr (2, [.long 0, .long 0])), (n27, .inr (2, [.long 0, .long 0])), (n38, .inr (2, [.long 0, .long 0]))]) (va_runIN (As := []) (rest := [.ref n49, .ref o]) ⟨hx, hb, hml, hown, hTB⟩ (c_X2_init l D cZ cI cJ n49 0 0 _) (cw_IN hTB hK tb_2_22 tb_2_9 nw_3 tb_2_21 rfl nd_X2_init rfl rfl ⟨Nat.le_of_ble_eq_true rfl, Nat.le_of_ble_eq_true rfl⟩) (pre_S hK hP hD [5] rfl rfl) rfl rfl hl.1 rfl (lv_room (Nat.le_of_ble_eq_true rfl)) dX0_init_53 ⟨Nat.le_of_ble_eq_true rfl, Nat.le_of_ble_eq_true rfl⟩) hP hD hS hA [5] [0, 1, 2, 3, 4] rfl rfl rfl (by decide) (fun u53 H locs hc53 hP hD hS => ?_)
  subst hc53
  have hP : va_P D vwCl [(o, .inr (0, [.ref n5, .ref n16, .ref n27, .ref n38, .null])), (n5, .inr (2, [.long 0, .long 0])), (n16, .inr (2, [.long 0, .long 0])), (n27, .inr (2, [.long 0, .long 0])), (n38, .inr (2, [.long 0, .long 0])), (n49, .inr (2, [.long 0, .long 0]))] H := hP
  have hD : va_D A [(o, .inr (0, [.ref n5, .ref n16, .ref n27, .ref n38, .null])), (n5, .inr (2, [.long 0, .long 0])), (n16, .inr (2, [.long 0, .long 0])), (n27, .inr (2, [.long 0, .long 0])), (n38, .inr (2, [.long 0, .long 0])), (n49, .inr (2, [.long 0, .long 0]))] := hD
  refine va_putF (D := D) (ci := 0) (v := .ref n49) (ty := .object "GridSums$Wide") (C := RX0) (T := TX0) (N := 5) hx hb hTB tb_X0 tyX0 tyX0_ok nmX0 hown hK.1 hP hD hS 0 rfl rfl 4 (by decide) (hTB _ tb_3_8) (fun _ h9 => h9) rfl hnm rfl (by decide +kernel) rfl rfl (Nat.le_of_ble_eq_true rfl) dX0_init_56 (fun H locs hP hD hS => ?_)
  have hP : va_P D vwCl [(o, .inr (0, [.ref n5, .ref n16, .ref n27, .ref n38, .ref n49])), (n5, .inr (2, [.long 0, .long 0])), (n16, .inr (2, [.long 0, .long 0])), (n27, .inr (2, [.long 0, .long 0])), (n38, .inr (2, [.long 0, .long 0])), (n49, .inr (2, [.long 0, .long 0]))] H := hP
  have hD : va_D A [(o, .inr (0, [.ref n5, .ref n16, .ref n27, .ref n38, .ref n49])), (n5, .inr (2, [.long 0, .long 0])), (n16, .inr (2, [.long 0, .long 0])), (n27, .inr (2, [.long 0, .long 0])), (n38, .inr (2, [.long 0, .long 0])), (n49, .inr (2, [.long 0, .long 0]))] := hD
  exact hret hP hD hS (n5, n16, n27, n38, n49) trivial [0, 1, 2, 3, 4, 5] rfl (by decide) dX0_init_59 (Nat.le_of_ble_eq_true rfl) (Nat.le_of_ble_eq_true rfl)

set_option maxHeartbeats 4000000 in
set_option maxRecDepth 100000 in
theorem c_X1_init (l : Launch) (D : va_G) (cZ cI cJ : ClassId) (o : Nat) : Cv l D cZ cI cJ yX1_init cX1_init 1 { frames := 2, cells := 2, slots := 4, locals := 32 } [.ref o] [(o, .inr (1, [.null, .null]))] (S := Nat × Nat) (fun u => True) (fun u => [(o, .inr (1, [.ref u.1, .ref u.2])), (u.1, .inr (2, [.long 0, .long 0])), (u.2, .inr (2, [.long 0, .long 0]))]) := by
  refine Cv.of (by decide) ?_
  intro p e s m args below meth c A Q hB hret hP hD hA
  obtain ⟨hx, hb, hr, hlocks, hml, hown, hnm, hTB, hK⟩ := hB
  have hown : s.vm.findClass RX1 = some m.cls := hown
  have hS : va_S A s.heap s.heap [] := va_S.rf
  have hl := lv_entry ([.ref o]) (n := 1) (Nat.le_of_ble_eq_true rfl)
  rw [lg_entry_eq]
  generalize (lg_sl ([.ref o]) ++ List.replicate (1 - (lg_sl ([.ref o])).length) Slot.unset).toArray = ls at hl ⊢
  have hl : lv_has ls 1 [(0, .ref o)] := hl
  refine lv_aload_n hx hb dX1_init_0 rfl (lv_at hl 0 rfl) ?_
  refine W.objInit hx hb hown (hTB _ tb_2_17) (hTB _ tb_1_12) (hTB _ tb_1_13) rfl (by rw [hml]; exact hl.1) rfl dX1_init_1 (Nat.le_of_ble_eq_true rfl) (Nat.le_of_ble_eq_true rfl) ?_
  refine W.eq (g2 := F0 m 4 ls []) rfl ?_
  refine lv_aload_n hx hb dX1_init_4 rfl (lv_at hl 0 rfl) ?_
  refine va_new (D := D) (ci := 2) (fs := [.long 0, .long 0]) (C := RX2) (T := TX2) (N := 2) hx hb hTB tb_X2 tyX2 tyX2_ok hown (hTB _ tb_2_18) (hTB _ tb_2_8) (hTB _ tb_2_9) hK.1 hP hD hS hA rfl (fun j hj => by rcases (show j = 0 ∨ j = 1 by omega) with rfl | rfl <;> rfl) (Nat.le_of_ble_eq_true rfl) (Nat.le_of_ble_eq_true rfl) dX1_init_5 (fun n5 H hP hD hS => ?_)
  have hP : va_P D vwCl [(o, .inr (1, [.null, .null])), (n5, .inr (2, [.long 0, .long 0]))] H := hP
  have hD : va_D A [(o, .inr (1, [.null, .null])), (n5, .inr (2, [.long 0, .long 0]))] := hD
  refine W.widen (k := 1) (n := 2) (by decide) (by decide) ?_
  refine lv_dup hx hb dX1_init_8 rfl ?_
  refine fin_v (wr := [(o, .inr (1, [.null, .null]))]) (va_runIN (As := []) (rest := [.ref n5, .ref o]) ⟨hx, hb, hml, hown, hTB⟩ (c_X2_init l D cZ cI cJ n5 0 0 _) (cw_IN hTB hK tb_2_22 tb_2_9 nw_1 tb_2_21 rfl nd_X2_init rfl rfl ⟨Nat.le_of_ble_eq_true rfl, Nat.le_of_ble_eq_true rfl⟩) (pre_S hK hP hD [1] rfl rfl) rfl rfl hl.1 rfl (lv_room (Nat.le_of_ble_eq_true rfl)) dX1_init_9 ⟨Nat.le_of_ble_eq_true rfl, Nat.le_of_ble_eq_true rfl⟩) hP hD hS hA [1] [0] rfl rfl rfl (by decide) (fun u9 H locs hc9 hP hD hS => ?_)
  subst hc9
  have hP : va_P D vwCl [(o, .inr (1, [.null, .null])), (n5, .inr (2, [.long 0, .long 0]))] H := hP
  have hD : va_D A [(o, .inr (1, [.null, .null])), (n5, .inr (2, [.long 0, .long 0]))] := hD
  refine va_putF (D := D) (ci := 1) (v := .ref n5) (ty := .object "GridSums$Wide") (C := RX1) (T := TX1) (N := 2) hx hb hTB tb_X1 tyX1 tyX1_ok nmX1 hown hK.1 hP hD hS 0 rfl rfl 0 (by decide) (hTB _ tb_2_19) (fun _ h9 => h9) rfl hnm rfl (by decide +kernel) rfl rfl (Nat.le_of_ble_eq_true rfl) dX1_init_12 (fun H locs hP hD hS => ?_)
  have hP : va_P D vwCl [(o, .inr (1, [.ref n5, .null])), (n5, .inr (2, [.long 0, .long 0]))] H := hP
  have hD : va_D A [(o, .inr (1, [.ref n5, .null])), (n5, .inr (2, [.long 0, .long 0]))] := hD
  refine lv_aload_n hx hb dX1_init_15 rfl (lv_at hl 0 rfl) ?_
  refine va_new (D := D) (ci := 2) (fs := [.long 0, .long 0]) (C := RX2) (T := TX2) (N := 2) hx hb hTB tb_X2 tyX2 tyX2_ok hown (hTB _ tb_2_18) (hTB _ tb_2_8) (hTB _ tb_2_9) hK.1 hP hD hS hA rfl (fun j hj => by rcases (show j = 0 ∨ j = 1 by omega) with rfl | rfl <;> rfl) (Nat.le_of_ble_eq_true rfl) (Nat.le_of_ble_eq_true rfl) dX1_init_16 (fun n16 H hP hD hS => ?_)
  have hP : va_P D vwCl [(o, .inr (1, [.ref n5, .null])), (n5, .inr (2, [.long 0, .long 0])), (n16, .inr (2, [.long 0, .long 0]))] H := hP
  have hD : va_D A [(o, .inr (1, [.ref n5, .null])), (n5, .inr (2, [.long 0, .long 0])), (n16, .inr (2, [.long 0, .long 0]))] := hD
  refine W.widen (k := 2) (n := 4) (by decide) (by decide) ?_
  refine lv_dup hx hb dX1_init_19 rfl ?_
  refine fin_v (wr := [(o, .inr (1, [.ref n5, .null])), (n5, .inr (2, [.long 0, .long 0]))]) (va_runIN (As := []) (rest := [.ref n16, .ref o]) ⟨hx, hb, hml, hown, hTB⟩ (c_X2_init l D cZ cI cJ n16 0 0 _) (cw_IN hTB hK tb_2_22 tb_2_9 nw_1 tb_2_21 rfl nd_X2_init rfl rfl ⟨Nat.le_of_ble_eq_true rfl, Nat.le_of_ble_eq_true rfl⟩) (pre_S hK hP hD [2] rfl rfl) rfl rfl hl.1 rfl (lv_room (Nat.le_of_ble_eq_true rfl)) dX1_init_20 ⟨Nat.le_of_ble_eq_true rfl, Nat.le_of_ble_eq_true rfl⟩) hP hD hS hA [2] [0, 1] rfl rfl rfl (by decide) (fun u20 H locs hc20 hP hD hS => ?_)
  subst hc20
  have hP : va_P D vwCl [(o, .inr (1, [.ref n5, .null])), (n5, .inr (2, [.long 0, .long 0])), (n16, .inr (2, [.long 0, .long 0]))] H := hP
  have hD : va_D A [(o, .inr (1, [.ref n5, .null])), (n5, .inr (2, [.long 0, .long 0])), (n16, .inr (2, [.long 0, .long 0]))] := hD
  refine va_putF (D := D) (ci := 1) (v := .ref n16) (ty := .object "GridSums$Wide") (C := RX1) (T := TX1) (N := 2) hx hb hTB tb_X1 tyX1 tyX1_ok nmX1 hown hK.1 hP hD hS 0 rfl rfl 1 (by decide) (hTB _ tb_2_20) (fun _ h9 => h9) rfl hnm rfl (by decide +kernel) rfl rfl (Nat.le_of_ble_eq_true rfl) dX1_init_23 (fun H locs hP hD hS => ?_)
  have hP : va_P D vwCl [(o, .inr (1, [.ref n5, .ref n16])), (n5, .inr (2, [.long 0, .long 0])), (n16, .inr (2, [.long 0, .long 0]))] H := hP
  have hD : va_D A [(o, .inr (1, [.ref n5, .ref n16])), (n5, .inr (2, [.long 0, .long 0])), (n16, .inr (2, [.long 0, .long 0]))] := hD
  exact hret hP hD hS (n5, n16) trivial [0, 1, 2] rfl (by decide) dX1_init_26 (Nat.le_of_ble_eq_true rfl) (Nat.le_of_ble_eq_true rfl)

set_option maxHeartbeats 4000000 in
set_option maxRecDepth 100000 in
theorem c_X1_putWhole (l : Launch) (D : va_G) (cZ cI cJ : ClassId) (o up lw : Nat) (uh ul vh vl v : Int64) : Cv l D cZ cI cJ yX1_putWhole cX1_putWhole 3 { frames := 1, cells := 0, slots := 0, locals := 22 } [.ref o, .long v] [(o, .inr (1, [.ref up, .ref lw])), (up, .inr (2, [.long uh, .long ul])), (lw, .inr (2, [.long vh, .long vl]))] (S := (Int64 × Int64) × (Int64 × Int64)) (fun u => wv u.1.1 u.1.2 = v.toInt ∧ wv u.2.1 u.2.2 = 1) (fun u => [(o, .inr (1, [.ref up, .ref lw])), (up, .inr (2, [.long u.1.1, .long u.1.2])), (lw, .inr (2, [.long u.2.1, .long u.2.2]))]) := by
  refine Cv.of (by decide) ?_
  intro p e s m args below meth c A Q hB hret hP hD hA
  obtain ⟨hx, hb, hr, hlocks, hml, hown, hnm, hTB, hK⟩ := hB
  have hown : s.vm.findClass RX1 = some m.cls := hown
  have hS : va_S A s.heap s.heap [] := va_S.rf
  have hl := lv_entry ([.ref o, .long v]) (n := 3) (Nat.le_of_ble_eq_true rfl)
  rw [lg_entry_eq]
  generalize (lg_sl ([.ref o, .long v]) ++ List.replicate (3 - (lg_sl ([.ref o, .long v])).length) Slot.unset).toArray = ls at hl ⊢
  have hl : lv_has ls 3 [(0, .ref o), (1, .long v)] := hl
  refine lv_aload_n hx hb dX1_putWhole_0 rfl (lv_at hl 0 rfl) ?_
  refine va_get (D := D) (ci := 1) (v := .ref up) (C := RX1) (T := TX1) (N := 2) hx hb hTB tb_X1 hown hK.1 hP 0 rfl rfl 0 (by decide) (hTB _ tb_2_19) (fun _ h9 => h9) rfl dX1_putWhole_1 ?_
  refine lv_lload_n hx hb dX1_putWhole_4 rfl (lv_at hl 1 rfl) ?_
  refine fin_v (wr := [(o, .inr (1, [.ref up, .ref lw])), (lw, .inr (2, [.long vh, .long vl]))]) (va_runV (As := [.long v]) (rest := []) ⟨hx, hb, hml, hown, hTB⟩ (c_X2_put l D cZ cI cJ up uh ul v _) (cw_V hTB tb_4_20 tb_2_9 tb_9_6 tb_4_18 tb_4_19 nd_X2_put rfl rfl ⟨Nat.le_of_ble_eq_true rfl, Nat.le_of_ble_eq_true rfl⟩) (pre_V (q0 := 1) hK hP hD [1] rfl rfl rfl rfl) rfl rfl hl.1 rfl (lv_room (Nat.le_of_ble_eq_true rfl)) dX1_putWhole_5 ⟨Nat.le_of_ble_eq_true rfl, Nat.le_of_ble_eq_true rfl⟩) hP hD hS hA [1] [0, 2] rfl rfl rfl (by decide) (fun u5 H locs hc5 hP hD hS => ?_)
  obtain ⟨w5h, w5l⟩ := u5
  try dsimp only at hc5
  have hP : va_P D vwCl [(o, .inr (1, [.ref up, .ref lw])), (lw, .inr (2, [.long vh, .long vl])), (up, .inr (2, [.long w5h, .long w5l]))] H := hP
  have hD : va_D A [(o, .inr (1, [.ref up, .ref lw])), (lw, .inr (2, [.long vh, .long vl])), (up, .inr (2, [.long w5h, .long w5l]))] := hD
  refine lv_aload_n hx hb dX1_putWhole_8 rfl (lv_at hl 0 rfl) ?_
  refine va_get (D := D) (ci := 1) (v := .ref lw) (C := RX1) (T := TX1) (N := 2) hx hb hTB tb_X1 hown hK.1 hP 0 rfl rfl 1 (by decide) (hTB _ tb_2_20) (fun _ h9 => h9) rfl dX1_putWhole_9 ?_
  refine lv_lconst (v := 1) hx hb dX1_putWhole_12 (by decide) ?_
  refine fin_v (wr := [(o, .inr (1, [.ref up, .ref lw])), (up, .inr (2, [.long w5h, .long w5l]))]) (va_runV (As := [.long 1]) (rest := []) ⟨hx, hb, hml, hown, hTB⟩ (c_X2_put l D cZ cI cJ lw vh vl 1 _) (cw_V hTB tb_4_20 tb_2_9 tb_9_6 tb_4_18 tb_4_19 nd_X2_put rfl rfl ⟨Nat.le_of_ble_eq_true rfl, Nat.le_of_ble_eq_true rfl⟩) (pre_V (q0 := 1) hK hP hD [1] rfl rfl rfl rfl) rfl rfl hl.1 rfl (lv_room (Nat.le_of_ble_eq_true rfl)) dX1_putWhole_13 ⟨Nat.le_of_ble_eq_true rfl, Nat.le_of_ble_eq_true rfl⟩) hP hD hS hA [1] [0, 2] rfl rfl rfl (by decide) (fun u13 H locs hc13 hP hD hS => ?_)
  obtain ⟨w13h, w13l⟩ := u13
  try dsimp only at hc13
  have hP : va_P D vwCl [(o, .inr (1, [.ref up, .ref lw])), (up, .inr (2, [.long w5h, .long w5l])), (lw, .inr (2, [.long w13h, .long w13l]))] H := hP
  have hD : va_D A [(o, .inr (1, [.ref up, .ref lw])), (up, .inr (2, [.long w5h, .long w5l])), (lw, .inr (2, [.long w13h, .long w13l]))] := hD
  exact hret hP hD hS ((w5h, w5l), (w13h, w13l)) (⟨hc5, hc13⟩) [0, 1, 2] rfl (by decide) dX1_putWhole_16 (Nat.le_of_ble_eq_true rfl) (Nat.le_of_ble_eq_true rfl)

set_option maxHeartbeats 4000000 in
set_option maxRecDepth 100000 in
theorem c_X1_putOnWay (l : Launch) (D : va_G) (cZ cI cJ : ClassId) (o up lw pa wh : Nat) (uh ul vh vl ph pl wh2 wl2 st wy : Int64) (hI1 : In (wv wh2 wl2 * st.toInt)) (hI2 : In (wv ph pl * wy.toInt)) (hI3 : In (wv wh2 wl2 * st.toInt + wv ph pl * wy.toInt)) : Cv l D cZ cI cJ yX1_putOnWay cX1_putOnWay 7 { frames := 3, cells := 0, slots := 0, locals := 74 } [.ref o, .long st, .long wy, .ref pa, .ref wh] [(o, .inr (1, [.ref up, .ref lw])), (up, .inr (2, [.long uh, .long ul])), (lw, .inr (2, [.long vh, .long vl])), (pa, .inr (2, [.long ph, .long pl])), (wh, .inr (2, [.long wh2, .long wl2]))] (S := (Int64 × Int64) × (Int64 × Int64)) (fun u => wv u.1.1 u.1.2 = wv wh2 wl2 * st.toInt + wv ph pl * wy.toInt ∧ u.2 = (wh2, wl2)) (fun u => [(o, .inr (1, [.ref up, .ref lw])), (up, .inr (2, [.long u.1.1, .long u.1.2])), (lw, .inr (2, [.long u.2.1, .long u.2.2])), (pa, .inr (2, [.long ph, .long pl])), (wh, .inr (2, [.long wh2, .long wl2]))]) := by
  refine Cv.of (by decide) ?_
  intro p e s m args below meth c A Q hB hret hP hD hA
  obtain ⟨hx, hb, hr, hlocks, hml, hown, hnm, hTB, hK⟩ := hB
  have hown : s.vm.findClass RX1 = some m.cls := hown
  have hS : va_S A s.heap s.heap [] := va_S.rf
  have hl := lv_entry ([.ref o, .long st, .long wy, .ref pa, .ref wh]) (n := 7) (Nat.le_of_ble_eq_true rfl)
  rw [lg_entry_eq]
  generalize (lg_sl ([.ref o, .long st, .long wy, .ref pa, .ref wh]) ++ List.replicate (7 - (lg_sl ([.ref o, .long st, .long wy, .ref pa, .ref wh])).length) Slot.unset).toArray = ls at hl ⊢
  have hl : lv_has ls 7 [(0, .ref o), (1, .long st), (3, .long wy), (5, .ref pa), (6, .ref wh)] := hl
  refine lv_aload_n hx hb dX1_putOnWay_0 rfl (lv_at hl 0 rfl) ?_
  refine va_get (D := D) (ci := 1) (v := .ref up) (C := RX1) (T := TX1) (N := 2) hx hb hTB tb_X1 hown hK.1 hP 0 rfl rfl 0 (by decide) (hTB _ tb_2_19) (fun _ h9 => h9) rfl dX1_putOnWay_1 ?_
  refine lv_lconst (v := 0) hx hb dX1_putOnWay_4 (by decide) ?_
  refine fin_v (wr := [(o, .inr (1, [.ref up, .ref lw])), (lw, .inr (2, [.long vh, .long vl])), (pa, .inr (2, [.long ph, .long pl])), (wh, .inr (2, [.long wh2, .long wl2]))]) (va_runV (As := [.long 0]) (rest := []) ⟨hx, hb, hml, hown, hTB⟩ (c_X2_put l D cZ cI cJ up uh ul 0 _) (cw_V hTB tb_4_20 tb_2_9 tb_9_6 tb_4_18 tb_4_19 nd_X2_put rfl rfl ⟨Nat.le_of_ble_eq_true rfl, Nat.le_of_ble_eq_true rfl⟩) (pre_V (q0 := 1) hK hP hD [1] rfl rfl rfl rfl) rfl rfl hl.1 rfl (lv_room (Nat.le_of_ble_eq_true rfl)) dX1_putOnWay_5 ⟨Nat.le_of_ble_eq_true rfl, Nat.le_of_ble_eq_true rfl⟩) hP hD hS hA [1] [0, 2, 3, 4] rfl rfl rfl (by decide) (fun u5 H locs hc5 hP hD hS => ?_)
  obtain ⟨w5h, w5l⟩ := u5
  try dsimp only at hc5
  have hP : va_P D vwCl [(o, .inr (1, [.ref up, .ref lw])), (lw, .inr (2, [.long vh, .long vl])), (pa, .inr (2, [.long ph, .long pl])), (wh, .inr (2, [.long wh2, .long wl2])), (up, .inr (2, [.long w5h, .long w5l]))] H := hP
  have hD : va_D A [(o, .inr (1, [.ref up, .ref lw])), (lw, .inr (2, [.long vh, .long vl])), (pa, .inr (2, [.long ph, .long pl])), (wh, .inr (2, [.long wh2, .long wl2])), (up, .inr (2, [.long w5h, .long w5l]))] := hD
  refine lv_aload_n hx hb dX1_putOnWay_8 rfl (lv_at hl 0 rfl) ?_
  refine va_get (D := D) (ci := 1) (v := .ref up) (C := RX1) (T := TX1) (N := 2) hx hb hTB tb_X1 hown hK.1 hP 0 rfl rfl 0 (by decide) (hTB _ tb_2_19) (fun _ h9 => h9) rfl dX1_putOnWay_9 ?_
  refine lv_aload hx hb dX1_putOnWay_12 (lv_at hl 4 rfl) ?_
  refine lv_lload_n hx hb dX1_putOnWay_14 rfl (lv_at hl 1 rfl) ?_
  refine fin_v (wr := [(o, .inr (1, [.ref up, .ref lw])), (lw, .inr (2, [.long vh, .long vl])), (pa, .inr (2, [.long ph, .long pl]))]) (va_runV (As := [.ref wh, .long st]) (rest := []) ⟨hx, hb, hml, hown, hTB⟩ (c_X2_addScaled l D cZ cI cJ up wh w5h w5l wh2 wl2 st _) (cw_V hTB tb_10_6 tb_2_9 tb_10_3 tb_10_4 tb_10_5 nd_X2_addScaled rfl rfl ⟨Nat.le_of_ble_eq_true rfl, Nat.le_of_ble_eq_true rfl⟩) (pre_V (q0 := 4) hK hP hD [4, 3] rfl rfl rfl rfl) rfl rfl hl.1 rfl (lv_room (Nat.le_of_ble_eq_true rfl)) dX1_putOnWay_15 ⟨Nat.le_of_ble_eq_true rfl, Nat.le_of_ble_eq_true rfl⟩) hP hD hS hA [4, 3] [0, 1, 2] rfl rfl rfl (by decide) (fun u15 H locs hc15 hP hD hS => ?_)
  obtain ⟨w15h, w15l⟩ := u15
  try dsimp only at hc15
  have hP : va_P D vwCl [(o, .inr (1, [.ref up, .ref lw])), (lw, .inr (2, [.long vh, .long vl])), (pa, .inr (2, [.long ph, .long pl])), (up, .inr (2, [.long w15h, .long w15l])), (wh, .inr (2, [.long wh2, .long wl2]))] H := hP
  have hD : va_D A [(o, .inr (1, [.ref up, .ref lw])), (lw, .inr (2, [.long vh, .long vl])), (pa, .inr (2, [.long ph, .long pl])), (up, .inr (2, [.long w15h, .long w15l])), (wh, .inr (2, [.long wh2, .long wl2]))] := hD
  refine lv_aload_n hx hb dX1_putOnWay_18 rfl (lv_at hl 0 rfl) ?_
  refine va_get (D := D) (ci := 1) (v := .ref up) (C := RX1) (T := TX1) (N := 2) hx hb hTB tb_X1 hown hK.1 hP 0 rfl rfl 0 (by decide) (hTB _ tb_2_19) (fun _ h9 => h9) rfl dX1_putOnWay_19 ?_
  refine lv_aload hx hb dX1_putOnWay_22 (lv_at hl 3 rfl) ?_
  refine lv_lload_n hx hb dX1_putOnWay_24 rfl (lv_at hl 2 rfl) ?_
  refine fin_v (wr := [(o, .inr (1, [.ref up, .ref lw])), (lw, .inr (2, [.long vh, .long vl])), (wh, .inr (2, [.long wh2, .long wl2]))]) (va_runV (As := [.ref pa, .long wy]) (rest := []) ⟨hx, hb, hml, hown, hTB⟩ (c_X2_addScaled l D cZ cI cJ up pa w15h w15l ph pl wy _) (cw_V hTB tb_10_6 tb_2_9 tb_10_3 tb_10_4 tb_10_5 nd_X2_addScaled rfl rfl ⟨Nat.le_of_ble_eq_true rfl, Nat.le_of_ble_eq_true rfl⟩) (pre_V (q0 := 3) hK hP hD [3, 2] rfl rfl rfl rfl) rfl rfl hl.1 rfl (lv_room (Nat.le_of_ble_eq_true rfl)) dX1_putOnWay_25 ⟨Nat.le_of_ble_eq_true rfl, Nat.le_of_ble_eq_true rfl⟩) hP hD hS hA [3, 2] [0, 1, 4] rfl rfl rfl (by decide) (fun u25 H locs hc25 hP hD hS => ?_)
  obtain ⟨w25h, w25l⟩ := u25
  try dsimp only at hc25
  have hP : va_P D vwCl [(o, .inr (1, [.ref up, .ref lw])), (lw, .inr (2, [.long vh, .long vl])), (wh, .inr (2, [.long wh2, .long wl2])), (up, .inr (2, [.long w25h, .long w25l])), (pa, .inr (2, [.long ph, .long pl]))] H := hP
  have hD : va_D A [(o, .inr (1, [.ref up, .ref lw])), (lw, .inr (2, [.long vh, .long vl])), (wh, .inr (2, [.long wh2, .long wl2])), (up, .inr (2, [.long w25h, .long w25l])), (pa, .inr (2, [.long ph, .long pl]))] := hD
  refine lv_aload_n hx hb dX1_putOnWay_28 rfl (lv_at hl 0 rfl) ?_
  refine va_get (D := D) (ci := 1) (v := .ref lw) (C := RX1) (T := TX1) (N := 2) hx hb hTB tb_X1 hown hK.1 hP 0 rfl rfl 1 (by decide) (hTB _ tb_2_20) (fun _ h9 => h9) rfl dX1_putOnWay_29 ?_
  refine lv_aload hx hb dX1_putOnWay_32 (lv_at hl 4 rfl) ?_
  refine fin_v (wr := [(o, .inr (1, [.ref up, .ref lw])), (up, .inr (2, [.long w25h, .long w25l])), (pa, .inr (2, [.long ph, .long pl]))]) (va_runV (As := [.ref wh]) (rest := []) ⟨hx, hb, hml, hown, hTB⟩ (c_X2_copy l D cZ cI cJ lw wh vh vl wh2 wl2 _) (cw_V hTB tb_10_10 tb_2_9 tb_10_7 tb_10_8 tb_10_9 nd_X2_copy rfl rfl ⟨Nat.le_of_ble_eq_true rfl, Nat.le_of_ble_eq_true rfl⟩) (pre_V (q0 := 1) hK hP hD [1, 2] rfl rfl rfl rfl) rfl rfl hl.1 rfl (lv_room (Nat.le_of_ble_eq_true rfl)) dX1_putOnWay_34 ⟨Nat.le_of_ble_eq_true rfl, Nat.le_of_ble_eq_true rfl⟩) hP hD hS hA [1, 2] [0, 3, 4] rfl rfl rfl (by decide) (fun u34 H locs hc34 hP hD hS => ?_)
  obtain ⟨w34h, w34l⟩ := u34
  try dsimp only at hc34
  have hP : va_P D vwCl [(o, .inr (1, [.ref up, .ref lw])), (up, .inr (2, [.long w25h, .long w25l])), (pa, .inr (2, [.long ph, .long pl])), (lw, .inr (2, [.long w34h, .long w34l])), (wh, .inr (2, [.long wh2, .long wl2]))] H := hP
  have hD : va_D A [(o, .inr (1, [.ref up, .ref lw])), (up, .inr (2, [.long w25h, .long w25l])), (pa, .inr (2, [.long ph, .long pl])), (lw, .inr (2, [.long w34h, .long w34l])), (wh, .inr (2, [.long wh2, .long wl2]))] := hD
  exact hret hP hD hS ((w25h, w25l), (w34h, w34l)) (⟨by rw [hc5, t0, Int.zero_add] at hc15; rw [hc15 hI1 hI1] at hc25; exact hc25 hI2 hI3, hc34⟩) [0, 1, 3, 2, 4] rfl (by decide) dX1_putOnWay_37 (Nat.le_of_ble_eq_true rfl) (Nat.le_of_ble_eq_true rfl)

set_option maxHeartbeats 4000000 in
set_option maxRecDepth 100000 in
theorem c_X1_reduce (l : Launch) (D : va_G) (cZ cI cJ : ClassId) (o up lw dv q r d lm co : Nat) (uh ul vh vl qh ql rh rl dh dl mh ml ch cl : Int64) (Ln : Nat) (hL : wv vh vl = (Ln : Int)) (hL0 : 0 < Ln) (hA1 : (wv uh ul).natAbs < 170141183460469231731687303715884105728) : Cv l D cZ cI cJ yX1_reduce cX1_reduce 2 { frames := 4, cells := 0, slots := 0, locals := 90 } [.ref o, .ref dv] [(o, .inr (1, [.ref up, .ref lw])), (up, .inr (2, [.long uh, .long ul])), (lw, .inr (2, [.long vh, .long vl])), (dv, .inr (0, [.ref q, .ref r, .ref d, .ref lm, .ref co])), (q, .inr (2, [.long qh, .long ql])), (r, .inr (2, [.long rh, .long rl])), (d, .inr (2, [.long dh, .long dl])), (lm, .inr (2, [.long mh, .long ml])), (co, .inr (2, [.long ch, .long cl]))] (S := (Int64 × Int64) × (Int64 × Int64) × (Int64 × Int64) × (Int64 × Int64) × (Int64 × Int64) × (Int64 × Int64) × (Int64 × Int64)) (fun u => wv u.1.1 u.1.2 = wv uh ul / ((Nat.gcd (wv uh ul).natAbs Ln) : Int) ∧ wv u.2.1.1 u.2.1.2 = (Ln : Int) / ((Nat.gcd (wv uh ul).natAbs Ln) : Int)) (fun u => [(o, .inr (1, [.ref up, .ref lw])), (up, .inr (2, [.long u.1.1, .long u.1.2])), (lw, .inr (2, [.long u.2.1.1, .long u.2.1.2])), (dv, .inr (0, [.ref q, .ref r, .ref d, .ref lm, .ref co])), (q, .inr (2, [.long u.2.2.1.1, .long u.2.2.1.2])), (r, .inr (2, [.long u.2.2.2.1.1, .long u.2.2.2.1.2])), (d, .inr (2, [.long u.2.2.2.2.1.1, .long u.2.2.2.2.1.2])), (lm, .inr (2, [.long u.2.2.2.2.2.1.1, .long u.2.2.2.2.2.1.2])), (co, .inr (2, [.long u.2.2.2.2.2.2.1, .long u.2.2.2.2.2.2.2]))]) := by
  refine Cv.of (by decide) ?_
  intro p e s m args below meth c A Q hB hret hP hD hA
  obtain ⟨hx, hb, hr, hlocks, hml, hown, hnm, hTB, hK⟩ := hB
  have hown : s.vm.findClass RX1 = some m.cls := hown
  have hS : va_S A s.heap s.heap [] := va_S.rf
  have hG0 : 0 < (Nat.gcd (wv uh ul).natAbs Ln) := Nat.gcd_pos_of_pos_right _ hL0
  have hl := lv_entry ([.ref o, .ref dv]) (n := 2) (Nat.le_of_ble_eq_true rfl)
  rw [lg_entry_eq]
  generalize (lg_sl ([.ref o, .ref dv]) ++ List.replicate (2 - (lg_sl ([.ref o, .ref dv])).length) Slot.unset).toArray = ls at hl ⊢
  have hl : lv_has ls 2 [(0, .ref o), (1, .ref dv)] := hl
  refine lv_aload_n hx hb dX1_reduce_0 rfl (lv_at hl 1 rfl) ?_
  refine lv_aload_n hx hb dX1_reduce_1 rfl (lv_at hl 0 rfl) ?_
  refine va_get (D := D) (ci := 1) (v := .ref up) (C := RX1) (T := TX1) (N := 2) hx hb hTB tb_X1 hown hK.1 hP 0 rfl rfl 0 (by decide) (hTB _ tb_2_19) (fun _ h9 => h9) rfl dX1_reduce_2 ?_
  refine lv_aload_n hx hb dX1_reduce_5 rfl (lv_at hl 0 rfl) ?_
  refine va_get (D := D) (ci := 1) (v := .ref lw) (C := RX1) (T := TX1) (N := 2) hx hb hTB tb_X1 hown hK.1 hP 0 rfl rfl 1 (by decide) (hTB _ tb_2_20) (fun _ h9 => h9) rfl dX1_reduce_6 ?_
  refine fin_v (wr := [(o, .inr (1, [.ref up, .ref lw])), (q, .inr (2, [.long qh, .long ql])), (d, .inr (2, [.long dh, .long dl])), (lm, .inr (2, [.long mh, .long ml]))]) (va_runV (As := [.ref up, .ref lw]) (rest := []) ⟨hx, hb, hml, hown, hTB⟩ (c_X0_findCommon l D cZ cI cJ dv q r d lm co up lw rh rl ch cl uh ul vh vl Ln hL hL0 hA1 _) (cw_V hTB tb_10_18 tb_2_5 tb_10_15 tb_10_16 tb_10_17 nd_X0_findCommon rfl rfl ⟨Nat.le_of_ble_eq_true rfl, Nat.le_of_ble_eq_true rfl⟩) (pre_V (q0 := 3) hK hP hD [3, 5, 8, 1, 2] rfl rfl rfl rfl) rfl rfl hl.1 rfl (lv_room (Nat.le_of_ble_eq_true rfl)) dX1_reduce_9 ⟨Nat.le_of_ble_eq_true rfl, Nat.le_of_ble_eq_true rfl⟩) hP hD hS hA [3, 5, 8, 1, 2] [0, 4, 6, 7] rfl rfl rfl (by decide) (fun u9 H locs hc9 hP hD hS => ?_)
  obtain ⟨⟨r9h, r9l⟩, c9h, c9l⟩ := u9
  dsimp only at hc9
  have hP : va_P D vwCl [(o, .inr (1, [.ref up, .ref lw])), (q, .inr (2, [.long qh, .long ql])), (d, .inr (2, [.long dh, .long dl])), (lm, .inr (2, [.long mh, .long ml])), (dv, .inr (0, [.ref q, .ref r, .ref d, .ref lm, .ref co])), (r, .inr (2, [.long r9h, .long r9l])), (co, .inr (2, [.long c9h, .long c9l])), (up, .inr (2, [.long uh, .long ul])), (lw, .inr (2, [.long vh, .long vl]))] H := hP
  have hD : va_D A [(o, .inr (1, [.ref up, .ref lw])), (q, .inr (2, [.long qh, .long ql])), (d, .inr (2, [.long dh, .long dl])), (lm, .inr (2, [.long mh, .long ml])), (dv, .inr (0, [.ref q, .ref r, .ref d, .ref lm, .ref co])), (r, .inr (2, [.long r9h, .long r9l])), (co, .inr (2, [.long c9h, .long c9l])), (up, .inr (2, [.long uh, .long ul])), (lw, .inr (2, [.long vh, .long vl]))] := hD
  refine lv_aload_n hx hb dX1_reduce_12 rfl (lv_at hl 1 rfl) ?_
  refine lv_aload_n hx hb dX1_reduce_13 rfl (lv_at hl 0 rfl) ?_
  refine va_get (D := D) (ci := 1) (v := .ref up) (C := RX1) (T := TX1) (N := 2) hx hb hTB tb_X1 hown hK.1 hP 0 rfl rfl 0 (by decide) (hTB _ tb_2_19) (fun _ h9 => h9) rfl dX1_reduce_14 ?_
  refine fin_v (wr := [(o, .inr (1, [.ref up, .ref lw])), (lw, .inr (2, [.long vh, .long vl]))]) (va_runV (As := [.ref up]) (rest := []) ⟨hx, hb, hml, hown, hTB⟩ (c_X0_takeCommonOut l D cZ cI cJ dv q r d lm co up qh ql r9h r9l dh dl mh ml c9h c9l uh ul (Nat.gcd (wv uh ul).natAbs Ln) hc9 hG0 (Nat.gcd_dvd_left _ _) hA1 _) (cw_V hTB tb_12_3 tb_2_5 tb_12_0 tb_12_1 tb_12_2 nd_X0_takeCommonOut rfl rfl ⟨Nat.le_of_ble_eq_true rfl, Nat.le_of_ble_eq_true rfl⟩) (pre_V (q0 := 4) hK hP hD [4, 1, 5, 2, 3, 6, 7] rfl rfl rfl rfl) rfl rfl hl.1 rfl (lv_room (Nat.le_of_ble_eq_true rfl)) dX1_reduce_17 ⟨Nat.le_of_ble_eq_true rfl, Nat.le_of_ble_eq_true rfl⟩) hP hD hS hA [4, 1, 5, 2, 3, 6, 7] [0, 8] rfl rfl rfl (by decide) (fun u17 H locs hc17 hP hD hS => ?_)
  obtain ⟨⟨x17a, x17b⟩, ⟨x17c, x17d⟩, ⟨x17e, x17f⟩, ⟨x17g, x17h⟩, x17i, x17j⟩ := u17
  dsimp only at hc17
  have hP : va_P D vwCl [(o, .inr (1, [.ref up, .ref lw])), (lw, .inr (2, [.long vh, .long vl])), (dv, .inr (0, [.ref q, .ref r, .ref d, .ref lm, .ref co])), (q, .inr (2, [.long x17a, .long x17b])), (r, .inr (2, [.long x17c, .long x17d])), (d, .inr (2, [.long x17e, .long x17f])), (lm, .inr (2, [.long x17g, .long x17h])), (co, .inr (2, [.long c9h, .long c9l])), (up, .inr (2, [.long x17i, .long x17j]))] H := hP
  have hD : va_D A [(o, .inr (1, [.ref up, .ref lw])), (lw, .inr (2, [.long vh, .long vl])), (dv, .inr (0, [.ref q, .ref r, .ref d, .ref lm, .ref co])), (q, .inr (2, [.long x17a, .long x17b])), (r, .inr (2, [.long x17c, .long x17d])), (d, .inr (2, [.long x17e, .long x17f])), (lm, .inr (2, [.long x17g, .long x17h])), (co, .inr (2, [.long c9h, .long c9l])), (up, .inr (2, [.long x17i, .long x17j]))] := hD
  refine lv_aload_n hx hb dX1_reduce_20 rfl (lv_at hl 1 rfl) ?_
  refine lv_aload_n hx hb dX1_reduce_21 rfl (lv_at hl 0 rfl) ?_
  refine va_get (D := D) (ci := 1) (v := .ref lw) (C := RX1) (T := TX1) (N := 2) hx hb hTB tb_X1 hown hK.1 hP 0 rfl rfl 1 (by decide) (hTB _ tb_2_20) (fun _ h9 => h9) rfl dX1_reduce_22 ?_
  refine fin_v (wr := [(o, .inr (1, [.ref up, .ref lw])), (up, .inr (2, [.long x17i, .long x17j]))]) (va_runV (As := [.ref lw]) (rest := []) ⟨hx, hb, hml, hown, hTB⟩ (c_X0_takeCommonOut l D cZ cI cJ dv q r d lm co lw x17a x17b x17c x17d x17e x17f x17g x17h c9h c9l vh vl (Nat.gcd (wv uh ul).natAbs Ln) hc9 hG0 (by rw [hL, Int.natAbs_natCast]; exact Nat.gcd_dvd_right _ _) (by have := wv_in vh vl; unfold In at this; omega) _) (cw_V hTB tb_12_3 tb_2_5 tb_12_0 tb_12_1 tb_12_2 nd_X0_takeCommonOut rfl rfl ⟨Nat.le_of_ble_eq_true rfl, Nat.le_of_ble_eq_true rfl⟩) (pre_V (q0 := 2) hK hP hD [2, 3, 4, 5, 6, 7, 1] rfl rfl rfl rfl) rfl rfl hl.1 rfl (lv_room (Nat.le_of_ble_eq_true rfl)) dX1_reduce_25 ⟨Nat.le_of_ble_eq_true rfl, Nat.le_of_ble_eq_true rfl⟩) hP hD hS hA [2, 3, 4, 5, 6, 7, 1] [0, 8] rfl rfl rfl (by decide) (fun u25 H locs hc25 hP hD hS => ?_)
  obtain ⟨⟨x25a, x25b⟩, ⟨x25c, x25d⟩, ⟨x25e, x25f⟩, ⟨x25g, x25h⟩, x25i, x25j⟩ := u25
  dsimp only at hc25
  have hP : va_P D vwCl [(o, .inr (1, [.ref up, .ref lw])), (up, .inr (2, [.long x17i, .long x17j])), (dv, .inr (0, [.ref q, .ref r, .ref d, .ref lm, .ref co])), (q, .inr (2, [.long x25a, .long x25b])), (r, .inr (2, [.long x25c, .long x25d])), (d, .inr (2, [.long x25e, .long x25f])), (lm, .inr (2, [.long x25g, .long x25h])), (co, .inr (2, [.long c9h, .long c9l])), (lw, .inr (2, [.long x25i, .long x25j]))] H := hP
  have hD : va_D A [(o, .inr (1, [.ref up, .ref lw])), (up, .inr (2, [.long x17i, .long x17j])), (dv, .inr (0, [.ref q, .ref r, .ref d, .ref lm, .ref co])), (q, .inr (2, [.long x25a, .long x25b])), (r, .inr (2, [.long x25c, .long x25d])), (d, .inr (2, [.long x25e, .long x25f])), (lm, .inr (2, [.long x25g, .long x25h])), (co, .inr (2, [.long c9h, .long c9l])), (lw, .inr (2, [.long x25i, .long x25j]))] := hD
  exact hret hP hD hS ((x17i, x17j), (x25i, x25j), (x25a, x25b), (x25c, x25d), (x25e, x25f), (x25g, x25h), (c9h, c9l)) (⟨hc17, by rw [← hL]; exact hc25⟩) [0, 1, 8, 2, 3, 4, 5, 6, 7] rfl (by decide) dX1_reduce_28 (Nat.le_of_ble_eq_true rfl) (Nat.le_of_ble_eq_true rfl)
end
section
/-! ints, the grid, what the class's small questions answer -/
theorem ic_lt {x y : Int32} (c : x < y) : x.toInt < y.toInt := Int32.lt_iff_toInt_lt.mp c
theorem ic_nlt {x y : Int32} (c : ¬ x < y) : y.toInt ≤ x.toInt := Int.not_lt.mp (fun q => c (Int32.lt_iff_toInt_lt.mpr q))
theorem ic_le {x y : Int32} (c : x ≤ y) : x.toInt ≤ y.toInt := Int32.le_iff_toInt_le.mp c
theorem ic_nle {x y : Int32} (c : ¬ x ≤ y) : y.toInt < x.toInt := Int.not_le.mp (fun q => c (Int32.le_iff_toInt_le.mpr q))
theorem ic_eq {x y : Int32} (c : x = y) : x.toInt = y.toInt := by rw [c]
theorem ic_ne {x y : Int32} (c : ¬ x = y) : x.toInt ≠ y.toInt := fun q => c (Int32.toInt_inj.mp q)
abbrev ogr (x y : Int64) : Prop := -1099511627776 ≤ x.toInt ∧ x.toInt ≤ 1099511627776 ∧ -1099511627776 ≤ y.toInt ∧ y.toInt ≤ 1099511627776
abbrev btw (a v b : Int64) : Prop := (a.toInt ≤ v.toInt ∨ b.toInt ≤ v.toInt) ∧ (v.toInt ≤ a.toInt ∨ v.toInt ≤ b.toInt)
abbrev inr (k : Int32) (n : Int) : Prop := 0 ≤ k.toInt ∧ k.toInt < n
abbrev ist (ft : Nat → Int32) (k : Int32) : Prop := 0 ≤ k.toInt ∧ k.toInt < 16 ∧ ft k.toNatClampNeg ≠ 0
abbrev isa (ph axis : Int32) : Prop := ph ≠ 0 ∧ (axis = 0 ∨ axis = 1)
abbrev mry (a b y : Int64) (side : Int32) : Prop := (a.toInt ≤ y.toInt ∧ y.toInt < b.toInt ∧ 0 < side.toInt) ∨ (b.toInt ≤ y.toInt ∧ y.toInt < a.toInt ∧ side.toInt < 0)
def cnt (f : Nat → Int32) : Nat → Nat
  | 0 => 0
  | n + 1 => cnt f n + (if f n = 0 then 0 else 1)
theorem cnt_le (f : Nat → Int32) (n : Nat) : cnt f n ≤ n := by
  induction n with
  | zero => exact Nat.le_refl 0
  | succ n ih => unfold cnt; split <;> omega
def nxt (a n : Nat) : Nat := if a + 1 < n then a + 1 else 0
theorem nxt_lt {a n : Nat} (h : a < n) : nxt a n < n := by unfold nxt; split <;> omega
def det (ax ay bx by_ cx cy : Int) : Int := (bx - ax) * (cy - ay) - (by_ - ay) * (cx - ax)
theorem mul_bd {x y X Y : Int} (h1 : -X ≤ x) (h2 : x ≤ X) (h3 : -Y ≤ y) (h4 : y ≤ Y) : -(X * Y) ≤ x * y ∧ x * y ≤ X * Y := by
  rcases Int.le_total 0 y with h | h
  · exact mb h h4 h1 h2
  · have := mb (x := x) (y := -y) (X := X) (Y := Y) (by omega) (by omega) h1 h2
    rw [Int.mul_neg] at this
    omega
theorem max_toInt {x y : Int64} : (if y < x then x else y).toInt = if y.toInt < x.toInt then x.toInt else y.toInt := by
  by_cases h : y < x
  · rw [if_pos h, if_pos (i64_lt.mp h)]
  · rw [if_neg h, if_neg (fun q => h (i64_lt.mpr q))]
theorem min_toInt {x y : Int64} : (if y < x then y else x).toInt = if y.toInt < x.toInt then y.toInt else x.toInt := by
  by_cases h : y < x
  · rw [if_pos h, if_pos (i64_lt.mp h)]
  · rw [if_neg h, if_neg (fun q => h (i64_lt.mpr q))]
abbrev lnok (k : Int32) (x0 y0 x1 y1 : Int64) : Prop := 0 ≤ k.toInt ∧ k.toInt < 16 ∧ ogr x0 y0 ∧ ogr x1 y1 ∧ ¬ (x0.toInt = x1.toInt ∧ y0.toInt = y1.toInt)
def trn (ax ay bx by_ cx cy : Int64) : Int32 := if ogr ax ay ∧ ogr bx by_ ∧ ogr cx cy then sg (det ax.toInt ay.toInt bx.toInt by_.toInt cx.toInt cy.toInt) else -2
theorem cnt_s0 {f : Nat → Int32} {n : Nat} (h : f n = 0) : cnt f (n + 1) = cnt f n := by
  show cnt f n + (if f n = 0 then 0 else 1) = cnt f n
  rw [if_pos h]; rfl
theorem cnt_s1 {f : Nat → Int32} {n : Nat} (h : ¬ f n = 0) : cnt f (n + 1) = cnt f n + 1 := by
  show cnt f n + (if f n = 0 then 0 else 1) = cnt f n + 1
  rw [if_neg h]
end
section
theorem nd_X3_init : yX3_init.cls ≠ "java/lang/invoke/MethodHandle" ∧ yX3_init.cls ≠ "java/lang/invoke/VarHandle" ∧ (parseMethodDescriptor yX3_init.desc).map (fun d => d.parameters.length) = some 0 := by decide +kernel
theorem nd_X3_turn : yX3_turn.cls ≠ "java/lang/invoke/MethodHandle" ∧ yX3_turn.cls ≠ "java/lang/invoke/VarHandle" ∧ (parseMethodDescriptor yX3_turn.desc).map (fun d => d.parameters.length) = some 6 := by decide +kernel
theorem nd_X3_line : yX3_line.cls ≠ "java/lang/invoke/MethodHandle" ∧ yX3_line.cls ≠ "java/lang/invoke/VarHandle" ∧ (parseMethodDescriptor yX3_line.desc).map (fun d => d.parameters.length) = some 5 := by decide +kernel
theorem nd_X3_cross : yX3_cross.cls ≠ "java/lang/invoke/MethodHandle" ∧ yX3_cross.cls ≠ "java/lang/invoke/VarHandle" ∧ (parseMethodDescriptor yX3_cross.desc).map (fun d => d.parameters.length) = some 2 := by decide +kernel
theorem nd_X3_at : yX3_at.cls ≠ "java/lang/invoke/MethodHandle" ∧ yX3_at.cls ≠ "java/lang/invoke/VarHandle" ∧ (parseMethodDescriptor yX3_at.desc).map (fun d => d.parameters.length) = some 1 := by decide +kernel
theorem nd_X3_exact : yX3_exact.cls ≠ "java/lang/invoke/MethodHandle" ∧ yX3_exact.cls ≠ "java/lang/invoke/VarHandle" ∧ (parseMethodDescriptor yX3_exact.desc).map (fun d => d.parameters.length) = some 3 := by decide +kernel
theorem nd_X3_corner : yX3_corner.cls ≠ "java/lang/invoke/MethodHandle" ∧ yX3_corner.cls ≠ "java/lang/invoke/VarHandle" ∧ (parseMethodDescriptor yX3_corner.desc).map (fun d => d.parameters.length) = some 2 := by decide +kernel
theorem nd_X3_area2 : yX3_area2.cls ≠ "java/lang/invoke/MethodHandle" ∧ yX3_area2.cls ≠ "java/lang/invoke/VarHandle" ∧ (parseMethodDescriptor yX3_area2.desc).map (fun d => d.parameters.length) = some 1 := by decide +kernel
theorem nd_X3_inside : yX3_inside.cls ≠ "java/lang/invoke/MethodHandle" ∧ yX3_inside.cls ≠ "java/lang/invoke/VarHandle" ∧ (parseMethodDescriptor yX3_inside.desc).map (fun d => d.parameters.length) = some 2 := by decide +kernel
theorem nd_X3_over : yX3_over.cls ≠ "java/lang/invoke/MethodHandle" ∧ yX3_over.cls ≠ "java/lang/invoke/VarHandle" ∧ (parseMethodDescriptor yX3_over.desc).map (fun d => d.parameters.length) = some 3 := by decide +kernel
theorem nd_X3_product : yX3_product.cls ≠ "java/lang/invoke/MethodHandle" ∧ yX3_product.cls ≠ "java/lang/invoke/VarHandle" ∧ (parseMethodDescriptor yX3_product.desc).map (fun d => d.parameters.length) = some 3 := by decide +kernel
theorem nd_X3_ratio : yX3_ratio.cls ≠ "java/lang/invoke/MethodHandle" ∧ yX3_ratio.cls ≠ "java/lang/invoke/VarHandle" ∧ (parseMethodDescriptor yX3_ratio.desc).map (fun d => d.parameters.length) = some 4 := by decide +kernel
theorem nd_X3_share : yX3_share.cls ≠ "java/lang/invoke/MethodHandle" ∧ yX3_share.cls ≠ "java/lang/invoke/VarHandle" ∧ (parseMethodDescriptor yX3_share.desc).map (fun d => d.parameters.length) = some 3 := by decide +kernel
theorem nd_X3_digit : yX3_digit.cls ≠ "java/lang/invoke/MethodHandle" ∧ yX3_digit.cls ≠ "java/lang/invoke/VarHandle" ∧ (parseMethodDescriptor yX3_digit.desc).map (fun d => d.parameters.length) = some 3 := by decide +kernel
theorem nd_X3_clear : yX3_clear.cls ≠ "java/lang/invoke/MethodHandle" ∧ yX3_clear.cls ≠ "java/lang/invoke/VarHandle" ∧ (parseMethodDescriptor yX3_clear.desc).map (fun d => d.parameters.length) = some 0 := by decide +kernel
theorem nd_X3_count : yX3_count.cls ≠ "java/lang/invoke/MethodHandle" ∧ yX3_count.cls ≠ "java/lang/invoke/VarHandle" ∧ (parseMethodDescriptor yX3_count.desc).map (fun d => d.parameters.length) = some 1 := by decide +kernel
theorem nd_X3_isOnGrid : yX3_isOnGrid.cls ≠ "java/lang/invoke/MethodHandle" ∧ yX3_isOnGrid.cls ≠ "java/lang/invoke/VarHandle" ∧ (parseMethodDescriptor yX3_isOnGrid.desc).map (fun d => d.parameters.length) = some 2 := by decide +kernel
theorem nd_X3_isBetween : yX3_isBetween.cls ≠ "java/lang/invoke/MethodHandle" ∧ yX3_isBetween.cls ≠ "java/lang/invoke/VarHandle" ∧ (parseMethodDescriptor yX3_isBetween.desc).map (fun d => d.parameters.length) = some 3 := by decide +kernel
theorem nd_X3_isTold : yX3_isTold.cls ≠ "java/lang/invoke/MethodHandle" ∧ yX3_isTold.cls ≠ "java/lang/invoke/VarHandle" ∧ (parseMethodDescriptor yX3_isTold.desc).map (fun d => d.parameters.length) = some 1 := by decide +kernel
theorem nd_X3_isAnswerable : yX3_isAnswerable.cls ≠ "java/lang/invoke/MethodHandle" ∧ yX3_isAnswerable.cls ≠ "java/lang/invoke/VarHandle" ∧ (parseMethodDescriptor yX3_isAnswerable.desc).map (fun d => d.parameters.length) = some 1 := by decide +kernel
theorem nd_X3_linesTold : yX3_linesTold.cls ≠ "java/lang/invoke/MethodHandle" ∧ yX3_linesTold.cls ≠ "java/lang/invoke/VarHandle" ∧ (parseMethodDescriptor yX3_linesTold.desc).map (fun d => d.parameters.length) = some 0 := by decide +kernel
theorem nd_X3_cornerBehind : yX3_cornerBehind.cls ≠ "java/lang/invoke/MethodHandle" ∧ yX3_cornerBehind.cls ≠ "java/lang/invoke/VarHandle" ∧ (parseMethodDescriptor yX3_cornerBehind.desc).map (fun d => d.parameters.length) = some 1 := by decide +kernel
theorem nd_X3_sideOf : yX3_sideOf.cls ≠ "java/lang/invoke/MethodHandle" ∧ yX3_sideOf.cls ≠ "java/lang/invoke/VarHandle" ∧ (parseMethodDescriptor yX3_sideOf.desc).map (fun d => d.parameters.length) = some 6 := by decide +kernel
theorem nd_X3_meetsRay : yX3_meetsRay.cls ≠ "java/lang/invoke/MethodHandle" ∧ yX3_meetsRay.cls ≠ "java/lang/invoke/VarHandle" ∧ (parseMethodDescriptor yX3_meetsRay.desc).map (fun d => d.parameters.length) = some 4 := by decide +kernel
theorem nd_X3_meetOfOthers : yX3_meetOfOthers.cls ≠ "java/lang/invoke/MethodHandle" ∧ yX3_meetOfOthers.cls ≠ "java/lang/invoke/VarHandle" ∧ (parseMethodDescriptor yX3_meetOfOthers.desc).map (fun d => d.parameters.length) = some 2 := by decide +kernel
theorem nd_X3_isPartOfSpan : yX3_isPartOfSpan.cls ≠ "java/lang/invoke/MethodHandle" ∧ yX3_isPartOfSpan.cls ≠ "java/lang/invoke/VarHandle" ∧ (parseMethodDescriptor yX3_isPartOfSpan.desc).map (fun d => d.parameters.length) = some 1 := by decide +kernel
theorem nd_X3_meetOfParallels : yX3_meetOfParallels.cls ≠ "java/lang/invoke/MethodHandle" ∧ yX3_meetOfParallels.cls ≠ "java/lang/invoke/VarHandle" ∧ (parseMethodDescriptor yX3_meetOfParallels.desc).map (fun d => d.parameters.length) = some 2 := by decide +kernel
theorem nd_X3_ratioByRule : yX3_ratioByRule.cls ≠ "java/lang/invoke/MethodHandle" ∧ yX3_ratioByRule.cls ≠ "java/lang/invoke/VarHandle" ∧ (parseMethodDescriptor yX3_ratioByRule.desc).map (fun d => d.parameters.length) = some 4 := by decide +kernel
theorem nd_X3_limbOf : yX3_limbOf.cls ≠ "java/lang/invoke/MethodHandle" ∧ yX3_limbOf.cls ≠ "java/lang/invoke/VarHandle" ∧ (parseMethodDescriptor yX3_limbOf.desc).map (fun d => d.parameters.length) = some 2 := by decide +kernel

set_option maxHeartbeats 4000000 in
set_option maxRecDepth 100000 in
theorem c_X3_isOnGrid (l : Launch) (D : va_G) (cZ cI cJ : ClassId) (x y : Int64) : Ri l D cZ cI cJ yX3_isOnGrid cX3_isOnGrid 4 (some .boolean) { frames := 0, cells := 0, slots := 0, locals := 0 } [.long x, .long y] [] (fun r => r = bz (ogr x y)) := by
  refine Ri.of (by decide) ?_
  intro p e s m args below meth c Q hB hret hP
  obtain ⟨hx, hb, hr, hlocks, hml, hown, hnm, hTB, hK⟩ := hB
  have hown : s.vm.findClass RX3 = some m.cls := hown
  have hl := lv_entry ([.long x, .long y]) (n := 4) (Nat.le_of_ble_eq_true rfl)
  rw [lg_entry_eq]
  generalize (lg_sl ([.long x, .long y]) ++ List.replicate (4 - (lg_sl ([.long x, .long y])).length) Slot.unset).toArray = ls at hl ⊢
  have hl : lv_has ls 4 [(0, .long x), (2, .long y)] := hl
  refine lv_lload_n hx hb dX3_isOnGrid_0 rfl (lv_at hl 0 rfl) ?_
  refine lv_ldc2 (v := (-1099511627776)) hx hb hown (hTB _ tb_4_7) dX3_isOnGrid_1 ?_
  refine W.lcmp hx hb dX3_isOnGrid_4 ?_
  refine lv_if_lt (tgt := 36) hx hb dX3_isOnGrid_5 (by decide) (fun c_5 => ?_) (fun c_5 => ?_)
  · have c_5 : x.toInt < (-1099511627776 : Int) := lc_lt c_5
    refine lv_iconst (v := 0) hx hb dX3_isOnGrid_36 (by decide) ?_
    exact hret rfl (bz_f (by omega)) dX3_isOnGrid_37
  · have c_5 : (-1099511627776 : Int) ≤ x.toInt := lc_nlt c_5
    refine lv_lload_n hx hb dX3_isOnGrid_8 rfl (lv_at hl 0 rfl) ?_
    refine lv_ldc2 (v := 1099511627776) hx hb hown (hTB _ tb_4_8) dX3_isOnGrid_9 ?_
    refine W.lcmp hx hb dX3_isOnGrid_12 ?_
    refine lv_if_gt (tgt := 36) hx hb dX3_isOnGrid_13 (by decide) (fun c_13 => ?_) (fun c_13 => ?_)
    · have c_13 : (1099511627776 : Int) < x.toInt := lc_gt c_13
      refine lv_iconst (v := 0) hx hb dX3_isOnGrid_36 (by decide) ?_
      exact hret rfl (bz_f (by omega)) dX3_isOnGrid_37
    · have c_13 : x.toInt ≤ (1099511627776 : Int) := lc_ngt c_13
      refine lv_lload_n hx hb dX3_isOnGrid_16 rfl (lv_at hl 1 rfl) ?_
      refine lv_ldc2 (v := (-1099511627776)) hx hb hown (hTB _ tb_4_7) dX3_isOnGrid_17 ?_
      refine W.lcmp hx hb dX3_isOnGrid_20 ?_
      refine lv_if_lt (tgt := 36) hx hb dX3_isOnGrid_21 (by decide) (fun c_21 => ?_) (fun c_21 => ?_)
      · have c_21 : y.toInt < (-1099511627776 : Int) := lc_lt c_21
        refine lv_iconst (v := 0) hx hb dX3_isOnGrid_36 (by decide) ?_
        exact hret rfl (bz_f (by omega)) dX3_isOnGrid_37
      · have c_21 : (-1099511627776 : Int) ≤ y.toInt := lc_nlt c_21
        refine lv_lload_n hx hb dX3_isOnGrid_24 rfl (lv_at hl 1 rfl) ?_
        refine lv_ldc2 (v := 1099511627776) hx hb hown (hTB _ tb_4_8) dX3_isOnGrid_25 ?_
        refine W.lcmp hx hb dX3_isOnGrid_28 ?_
        refine lv_if_gt (tgt := 36) hx hb dX3_isOnGrid_29 (by decide) (fun c_29 => ?_) (fun c_29 => ?_)
        · have c_29 : (1099511627776 : Int) < y.toInt := lc_gt c_29
          refine lv_iconst (v := 0) hx hb dX3_isOnGrid_36 (by decide) ?_
          exact hret rfl (bz_f (by omega)) dX3_isOnGrid_37
        · have c_29 : y.toInt ≤ (1099511627776 : Int) := lc_ngt c_29
          refine lv_iconst (v := 1) hx hb dX3_isOnGrid_32 (by decide) ?_
          refine lv_goto (tgt := 37) hx hb dX3_isOnGrid_33 (by decide) ?_
          exact hret rfl (bz_t (by omega)) dX3_isOnGrid_37

set_option maxHeartbeats 4000000 in
set_option maxRecDepth 100000 in
theorem c_X3_isBetween (l : Launch) (D : va_G) (cZ cI cJ : ClassId) (x v y : Int64) : Ri l D cZ cI cJ yX3_isBetween cX3_isBetween 6 (some .boolean) { frames := 1, cells := 0, slots := 0, locals := 17 } [.long x, .long v, .long y] [] (fun r => r = bz (btw x v y)) := by
  refine Ri.of (by decide) ?_
  intro p e s m args below meth c Q hB hret hP
  obtain ⟨hx, hb, hr, hlocks, hml, hown, hnm, hTB, hK⟩ := hB
  have hown : s.vm.findClass RX3 = some m.cls := hown
  have hl := lv_entry ([.long x, .long v, .long y]) (n := 6) (Nat.le_of_ble_eq_true rfl)
  rw [lg_entry_eq]
  generalize (lg_sl ([.long x, .long v, .long y]) ++ List.replicate (6 - (lg_sl ([.long x, .long v, .long y])).length) Slot.unset).toArray = ls at hl ⊢
  have hl : lv_has ls 6 [(0, .long x), (2, .long v), (4, .long y)] := hl
  refine lv_lload_n hx hb dX3_isBetween_0 rfl (lv_at hl 0 rfl) ?_
  refine lv_lload hx hb dX3_isBetween_1 (lv_at hl 2 rfl) ?_
  refine va_mmin_long hx hb (hml.trans hl.1.symm) hown (hTB _ tb_8_19) (hTB _ tb_8_20) (hTB _ tb_8_21) (hTB _ tb_8_22) (Nat.le_of_ble_eq_true rfl) (Nat.le_of_ble_eq_true rfl) (Nat.zero_le _) (Nat.zero_le _) dX3_isBetween_3 ?_
  refine lv_lload_n hx hb dX3_isBetween_6 rfl (lv_at hl 1 rfl) ?_
  refine W.lcmp hx hb dX3_isBetween_7 ?_
  refine lv_if_gt (tgt := 26) hx hb dX3_isBetween_8 (by decide) (fun c_8 => ?_) (fun c_8 => ?_)
  · have c_8 : v.toInt < (if y < x then y else x).toInt := lc_gt c_8
    refine lv_iconst (v := 0) hx hb dX3_isBetween_26 (by decide) ?_
    exact hret rfl (bz_f (by rw [min_toInt] at c_8; split at c_8 <;> omega)) dX3_isBetween_27
  · have c_8 : (if y < x then y else x).toInt ≤ v.toInt := lc_ngt c_8
    refine lv_lload_n hx hb dX3_isBetween_11 rfl (lv_at hl 1 rfl) ?_
    refine lv_lload_n hx hb dX3_isBetween_12 rfl (lv_at hl 0 rfl) ?_
    refine lv_lload hx hb dX3_isBetween_13 (lv_at hl 2 rfl) ?_
    refine va_mmax_long hx hb (hml.trans hl.1.symm) hown (hTB _ tb_8_23) (hTB _ tb_9_0) (hTB _ tb_8_21) (hTB _ tb_9_1) (Nat.le_of_ble_eq_true rfl) (Nat.le_of_ble_eq_true rfl) (Nat.zero_le _) (Nat.zero_le _) dX3_isBetween_15 ?_
    refine W.lcmp hx hb dX3_isBetween_18 ?_
    refine lv_if_gt (tgt := 26) hx hb dX3_isBetween_19 (by decide) (fun c_19 => ?_) (fun c_19 => ?_)
    · have c_19 : (if y < x then x else y).toInt < v.toInt := lc_gt c_19
      refine lv_iconst (v := 0) hx hb dX3_isBetween_26 (by decide) ?_
      exact hret rfl (bz_f (by rw [min_toInt] at c_8; rw [max_toInt] at c_19; split at c_8 <;> split at c_19 <;> omega)) dX3_isBetween_27
    · have c_19 : v.toInt ≤ (if y < x then x else y).toInt := lc_ngt c_19
      refine lv_iconst (v := 1) hx hb dX3_isBetween_22 (by decide) ?_
      refine lv_goto (tgt := 27) hx hb dX3_isBetween_23 (by decide) ?_
      exact hret rfl (bz_t (by rw [min_toInt] at c_8; rw [max_toInt] at c_19; split at c_8 <;> split at c_19 <;> omega)) dX3_isBetween_27

set_option maxHeartbeats 4000000 in
set_option maxRecDepth 100000 in
theorem c_X3_isTold (l : Launch) (D : va_G) (cZ cI cJ : ClassId) (o tl sx sy wx wy kx ky fx fy dv sp p1 p2 : Nat) (cn ph : Int32) (ft : Nat → Int32) (k : Int32) : Ri l D cZ cI cJ yX3_isTold cX3_isTold 2 (some .boolean) { frames := 0, cells := 0, slots := 0, locals := 0 } [.ref o, .int k] [(o, .inr (3, [.ref tl, .ref sx, .ref sy, .ref wx, .ref wy, .ref kx, .ref ky, .int cn, .int ph, .ref fx, .ref fy, .ref dv, .ref sp, .ref p1, .ref p2])), (tl, .inl (cZ, 16, .inl ft))] (fun r => r = bz (ist ft k)) := by
  refine Ri.of (by decide) ?_
  intro p e s m args below meth c Q hB hret hP
  obtain ⟨hx, hb, hr, hlocks, hml, hown, hnm, hTB, hK⟩ := hB
  have hown : s.vm.findClass RX3 = some m.cls := hown
  have hl := lv_entry ([.ref o, .int k]) (n := 2) (Nat.le_of_ble_eq_true rfl)
  rw [lg_entry_eq]
  generalize (lg_sl ([.ref o, .int k]) ++ List.replicate (2 - (lg_sl ([.ref o, .int k])).length) Slot.unset).toArray = ls at hl ⊢
  have hl : lv_has ls 2 [(0, .ref o), (1, .int k)] := hl
  refine lv_iload_n hx hb dX3_isTold_0 rfl (lv_at hl 1 rfl) ?_
  refine lv_if_lt (tgt := 23) hx hb dX3_isTold_1 (by decide) (fun c_1 => ?_) (fun c_1 => ?_)
  · have c_1 : k.toInt < (0 : Int) := ic_lt c_1
    refine lv_iconst (v := 0) hx hb dX3_isTold_23 (by decide) ?_
    exact hret rfl (bz_f (by omega)) dX3_isTold_24
  · have c_1 : (0 : Int) ≤ k.toInt := ic_nlt c_1
    refine lv_iload_n hx hb dX3_isTold_4 rfl (lv_at hl 1 rfl) ?_
    refine lv_bipush (v := 16) hx hb dX3_isTold_5 (by decide) ?_
    refine lv_icmp_ge (tgt := 23) hx hb dX3_isTold_7 (by decide) (fun c_7 => ?_) (fun c_7 => ?_)
    · have c_7 : (16 : Int) ≤ k.toInt := ic_le c_7
      refine lv_iconst (v := 0) hx hb dX3_isTold_23 (by decide) ?_
      exact hret rfl (bz_f (by omega)) dX3_isTold_24
    · have c_7 : k.toInt < (16 : Int) := ic_nle c_7
      refine lv_aload_n hx hb dX3_isTold_10 rfl (lv_at hl 0 rfl) ?_
      refine va_get (D := D) (ci := 3) (v := .ref tl) (C := RX3) (T := TX3) (N := 15) hx hb hTB tb_X3 hown hK.1 hP 0 rfl rfl 0 (by decide) (hTB _ tb_1_15) (fun _ h9 => h9) rfl dX3_isTold_11 ?_
      refine lv_iload_n hx hb dX3_isTold_14 rfl (lv_at hl 1 rfl) ?_
      refine va_zald (f := ft) hx hb hK.1 hP 1 0 rfl rfl (vp_in_iff.mpr ⟨by omega, by omega⟩) dX3_isTold_15 ?_
      refine lv_if_eq (tgt := 23) hx hb dX3_isTold_16 (by decide) (fun c_16 => ?_) (fun c_16 => ?_)
      · have c_16 : (ft (k.toNatClampNeg)).toInt = (0 : Int) := ic_eq c_16
        refine lv_iconst (v := 0) hx hb dX3_isTold_23 (by decide) ?_
        exact hret rfl (bz_f (fun q => q.2.2 (i32_of (k := 0) c_16))) dX3_isTold_24
      · have c_16 : (ft (k.toNatClampNeg)).toInt ≠ (0 : Int) := ic_ne c_16
        refine lv_iconst (v := 1) hx hb dX3_isTold_19 (by decide) ?_
        refine lv_goto (tgt := 24) hx hb dX3_isTold_20 (by decide) ?_
        exact hret rfl (bz_t ⟨by omega, by omega, fun q => c_16 (by rw [q]; rfl)⟩) dX3_isTold_24

set_option maxHeartbeats 4000000 in
set_option maxRecDepth 100000 in
theorem c_X3_isAnswerable (l : Launch) (D : va_G) (cZ cI cJ : ClassId) (o tl sx sy wx wy kx ky fx fy dv sp p1 p2 : Nat) (cn ph : Int32) (axis : Int32) : Ri l D cZ cI cJ yX3_isAnswerable cX3_isAnswerable 2 (some .boolean) { frames := 0, cells := 0, slots := 0, locals := 0 } [.ref o, .int axis] [(o, .inr (3, [.ref tl, .ref sx, .ref sy, .ref wx, .ref wy, .ref kx, .ref ky, .int cn, .int ph, .ref fx, .ref fy, .ref dv, .ref sp, .ref p1, .ref p2]))] (fun r => r = bz (isa ph axis)) := by
  refine Ri.of (by decide) ?_
  intro p e s m args below meth c Q hB hret hP
  obtain ⟨hx, hb, hr, hlocks, hml, hown, hnm, hTB, hK⟩ := hB
  have hown : s.vm.findClass RX3 = some m.cls := hown
  have hl := lv_entry ([.ref o, .int axis]) (n := 2) (Nat.le_of_ble_eq_true rfl)
  rw [lg_entry_eq]
  generalize (lg_sl ([.ref o, .int axis]) ++ List.replicate (2 - (lg_sl ([.ref o, .int axis])).length) Slot.unset).toArray = ls at hl ⊢
  have hl : lv_has ls 2 [(0, .ref o), (1, .int axis)] := hl
  refine lv_aload_n hx hb dX3_isAnswerable_0 rfl (lv_at hl 0 rfl) ?_
  refine va_get (D := D) (ci := 3) (v := .int ph) (C := RX3) (T := TX3) (N := 15) hx hb hTB tb_X3 hown hK.1 hP 0 rfl rfl 8 (by decide) (hTB _ tb_2_14) (fun _ h9 => h9) rfl dX3_isAnswerable_1 ?_
  refine lv_if_eq (tgt := 20) hx hb dX3_isAnswerable_4 (by decide) (fun c_4 => ?_) (fun c_4 => ?_)
  · refine lv_iconst (v := 0) hx hb dX3_isAnswerable_20 (by decide) ?_
    exact hret rfl (bz_f (fun q => q.1 c_4)) dX3_isAnswerable_21
  · refine lv_iload_n hx hb dX3_isAnswerable_7 rfl (lv_at hl 1 rfl) ?_
    refine lv_if_eq (tgt := 16) hx hb dX3_isAnswerable_8 (by decide) (fun c_8 => ?_) (fun c_8 => ?_)
    · refine lv_iconst (v := 1) hx hb dX3_isAnswerable_16 (by decide) ?_
      refine lv_goto (tgt := 21) hx hb dX3_isAnswerable_17 (by decide) ?_
      exact hret rfl (bz_t ⟨c_4, Or.inl c_8⟩) dX3_isAnswerable_21
    · refine lv_iload_n hx hb dX3_isAnswerable_11 rfl (lv_at hl 1 rfl) ?_
      refine lv_iconst (v := 1) hx hb dX3_isAnswerable_12 (by decide) ?_
      refine lv_icmp_ne (tgt := 20) hx hb dX3_isAnswerable_13 (by decide) (fun c_13 => ?_) (fun c_13 => ?_)
      · refine lv_iconst (v := 0) hx hb dX3_isAnswerable_20 (by decide) ?_
        exact hret rfl (bz_f (fun q => q.2.elim c_8 c_13)) dX3_isAnswerable_21
      · refine lv_iconst (v := 1) hx hb dX3_isAnswerable_16 (by decide) ?_
        refine lv_goto (tgt := 21) hx hb dX3_isAnswerable_17 (by decide) ?_
        exact hret rfl (bz_t ⟨c_4, Or.inr c_13⟩) dX3_isAnswerable_21

set_option maxHeartbeats 4000000 in
set_option maxRecDepth 100000 in
theorem c_X3_linesTold (l : Launch) (D : va_G) (cZ cI cJ : ClassId) (o tl sx sy wx wy kx ky fx fy dv sp p1 p2 : Nat) (cn ph : Int32) (ft : Nat → Int32) : Ri l D cZ cI cJ yX3_linesTold cX3_linesTold 3 (some .int) { frames := 0, cells := 0, slots := 0, locals := 0 } [.ref o] [(o, .inr (3, [.ref tl, .ref sx, .ref sy, .ref wx, .ref wy, .ref kx, .ref ky, .int cn, .int ph, .ref fx, .ref fy, .ref dv, .ref sp, .ref p1, .ref p2])), (tl, .inl (cZ, 16, .inl ft))] (fun r => r = nI (cnt ft 16)) := by
  refine Ri.of (by decide) ?_
  intro p e s m args below meth c Q hB hret hP
  obtain ⟨hx, hb, hr, hlocks, hml, hown, hnm, hTB, hK⟩ := hB
  have hown : s.vm.findClass RX3 = some m.cls := hown
  have hl := lv_entry ([.ref o]) (n := 3) (Nat.le_of_ble_eq_true rfl)
  rw [lg_entry_eq]
  generalize (lg_sl ([.ref o]) ++ List.replicate (3 - (lg_sl ([.ref o])).length) Slot.unset).toArray = ls at hl ⊢
  have hl : lv_has ls 3 [(0, .ref o)] := hl
  refine lv_iconst (v := 0) hx hb dX3_linesTold_0 (by decide) ?_
  refine lv_istore_n (lv' := [(1, .int 0), (0, .ref o)]) hx hb dX3_linesTold_1 rfl hl (by decide) rfl (fun ls hl => ?_)
  refine lv_iconst (v := 0) hx hb dX3_linesTold_2 (by decide) ?_
  refine lv_istore_n (lv' := [(2, .int 0), (1, .int 0), (0, .ref o)]) hx hb dX3_linesTold_3 rfl hl (by decide) rfl (fun ls hl => ?_)
  have L4 : ∀ (n4 : Nat) (k : Nat), (16 < k + n4 ∧ k ≤ 16) → ∀ (ls : Array Slot), lv_has ls 3 [(0, .ref o), (1, .int (nI (cnt ft k))), (2, .int (nI k))] → W p l e { frames := 0, cells := 0, slots := 0, locals := 0 } s m args below meth c s.heap [] 0 0 Q (F0 m 4 ls []) := by
    intro n4
    induction n4 with
    | zero =>
      intro k g1
      exfalso; omega
    | succ n4 ih4 =>
      intro k g1 ls hl
      refine lv_iload_n hx hb dX3_linesTold_4 rfl (lv_at hl 2 rfl) ?_
      refine lv_bipush (v := 16) hx hb dX3_linesTold_5 (by decide) ?_
      refine lv_icmp_ge (tgt := 28) hx hb dX3_linesTold_7 (by decide) (fun c_7 => ?_) (fun c_7 => ?_)
      · refine lv_iload_n hx hb dX3_linesTold_28 rfl (lv_at hl 1 rfl) ?_
        exact hret rfl (by have := (nI_leI (a := 16) (b := k) (by omega) (by omega)).mp c_7; rw [show k = 16 from (by omega)]) dX3_linesTold_29
      · have hk : k < 16 := Nat.not_le.mp (fun q => c_7 ((nI_leI (a := 16) (b := k) (by omega) (by omega)).mpr q))
        refine lv_aload_n hx hb dX3_linesTold_10 rfl (lv_at hl 0 rfl) ?_
        refine va_get (D := D) (ci := 3) (v := .ref tl) (C := RX3) (T := TX3) (N := 15) hx hb hTB tb_X3 hown hK.1 hP 0 rfl rfl 0 (by decide) (hTB _ tb_1_15) (fun _ h9 => h9) rfl dX3_linesTold_11 ?_
        refine lv_iload_n hx hb dX3_linesTold_14 rfl (lv_at hl 2 rfl) ?_
        refine va_zald (f := ft) hx hb hK.1 hP 1 0 rfl rfl (vp_in_nI hk (by decide)) dX3_linesTold_15 ?_
        rw [show (nI k).toNatClampNeg = k from nI_clamp (by omega)]
        refine lv_if_eq (tgt := 22) hx hb dX3_linesTold_16 (by decide) (fun c_16 => ?_) (fun c_16 => ?_)
        · obtain ⟨i2_1, ei2_1⟩ : ∃ y : Int32, y = (nI k) + 1 := ⟨_, rfl⟩
          refine lv_iinc (v := i2_1) (lv' := [(2, .int i2_1), (0, .ref o), (1, .int (nI (cnt ft k)))]) hx hb dX3_linesTold_22 hl (k := 2) rfl (by rw [ei2_1]; rfl) (by decide) rfl (fun ls hl => ?_)
          refine lv_goto (tgt := 4) hx hb dX3_linesTold_25 (by decide) ?_
          have q9 : i2_1 = nI (k + 1) := by rw [ei2_1]; exact nI_1 k
          subst q9
          have q8 : cnt ft (k + 1) = cnt ft k := cnt_s0 c_16
          rw [← q8] at hl
          refine ih4 (k + 1) ?_ _ (lv_sub hl [1, 2, 0] rfl)
          · omega
        · obtain ⟨i1_2, ei1_2⟩ : ∃ y : Int32, y = (nI (cnt ft k)) + 1 := ⟨_, rfl⟩
          refine lv_iinc (v := i1_2) (lv' := [(1, .int i1_2), (0, .ref o), (2, .int (nI k))]) hx hb dX3_linesTold_19 hl (k := 1) rfl (by rw [ei1_2]; rfl) (by decide) rfl (fun ls hl => ?_)
          obtain ⟨i2_3, ei2_3⟩ : ∃ y : Int32, y = (nI k) + 1 := ⟨_, rfl⟩
          refine lv_iinc (v := i2_3) (lv' := [(2, .int i2_3), (1, .int i1_2), (0, .ref o)]) hx hb dX3_linesTold_22 hl (k := 2) rfl (by rw [ei2_3]; rfl) (by decide) rfl (fun ls hl => ?_)
          refine lv_goto (tgt := 4) hx hb dX3_linesTold_25 (by decide) ?_
          have q9 : i2_3 = nI (k + 1) := by rw [ei2_3]; exact nI_1 k
          subst q9
          have q8 : i1_2 = nI (cnt ft (k + 1)) := by rw [ei1_2, cnt_s1 c_16]; exact nI_1 _
          subst q8
          refine ih4 (k + 1) ?_ _ (lv_sub hl [2, 1, 0] rfl)
          · omega
  refine L4 17 0 ?_ _ (lv_sub hl [2, 1, 0] rfl)
  · omega

set_option maxHeartbeats 4000000 in
set_option maxRecDepth 100000 in
theorem c_X3_cornerBehind (l : Launch) (D : va_G) (cZ cI cJ : ClassId) (o tl sx sy wx wy kx ky fx fy dv sp p1 p2 : Nat) (ph : Int32) (n a : Nat) (hn : n ≤ 64) (ha : a < 64) : Ri l D cZ cI cJ yX3_cornerBehind cX3_cornerBehind 2 (some .int) { frames := 0, cells := 0, slots := 0, locals := 0 } [.ref o, .int (nI a)] [(o, .inr (3, [.ref tl, .ref sx, .ref sy, .ref wx, .ref wy, .ref kx, .ref ky, .int (nI n), .int ph, .ref fx, .ref fy, .ref dv, .ref sp, .ref p1, .ref p2]))] (fun r => r = nI (nxt a n)) := by
  refine Ri.of (by decide) ?_
  intro p e s m args below meth c Q hB hret hP
  obtain ⟨hx, hb, hr, hlocks, hml, hown, hnm, hTB, hK⟩ := hB
  have hown : s.vm.findClass RX3 = some m.cls := hown
  have hl := lv_entry ([.ref o, .int (nI a)]) (n := 2) (Nat.le_of_ble_eq_true rfl)
  rw [lg_entry_eq]
  generalize (lg_sl ([.ref o, .int (nI a)]) ++ List.replicate (2 - (lg_sl ([.ref o, .int (nI a)])).length) Slot.unset).toArray = ls at hl ⊢
  have hl : lv_has ls 2 [(0, .ref o), (1, .int (nI a))] := hl
  refine lv_iload_n hx hb dX3_cornerBehind_0 rfl (lv_at hl 1 rfl) ?_
  refine lv_iconst (v := 1) hx hb dX3_cornerBehind_1 (by decide) ?_
  refine lv_iadd hx hb dX3_cornerBehind_2 ?_
  refine lv_aload_n hx hb dX3_cornerBehind_3 rfl (lv_at hl 0 rfl) ?_
  refine va_get (D := D) (ci := 3) (v := .int (nI n)) (C := RX3) (T := TX3) (N := 15) hx hb hTB tb_X3 hown hK.1 hP 0 rfl rfl 7 (by decide) (hTB _ tb_2_13) (fun _ h9 => h9) rfl dX3_cornerBehind_4 ?_
  refine lv_icmp_ge (tgt := 16) hx hb dX3_cornerBehind_7 (by decide) (fun c_7 => ?_) (fun c_7 => ?_)
  · refine lv_iconst (v := 0) hx hb dX3_cornerBehind_16 (by decide) ?_
    exact hret rfl (by rw [nI_1] at c_7; have := (nI_leI (a := n) (b := a + 1) (by omega) (by omega)).mp c_7; unfold nxt; rw [if_neg (by omega)]; rfl) dX3_cornerBehind_17
  · refine lv_iload_n hx hb dX3_cornerBehind_10 rfl (lv_at hl 1 rfl) ?_
    refine lv_iconst (v := 1) hx hb dX3_cornerBehind_11 (by decide) ?_
    refine lv_iadd hx hb dX3_cornerBehind_12 ?_
    refine lv_goto (tgt := 17) hx hb dX3_cornerBehind_13 (by decide) ?_
    exact hret rfl (by rw [nI_1] at c_7; have hq : ¬ n ≤ a + 1 := (fun q => c_7 ((nI_leI (by omega) (by omega)).mpr q)); unfold nxt; rw [if_pos (by omega), nI_1]) dX3_cornerBehind_17

set_option maxHeartbeats 4000000 in
set_option maxRecDepth 100000 in
theorem c_X3_sideOf (l : Launch) (D : va_G) (cZ cI cJ : ClassId) (o tl sx sy wx wy kx ky fx fy dv sp p1 p2 : Nat) (cn ph : Int32) (sh sl : Int64) (ax ay bx by_ cx cy : Int64) (hga : ogr ax ay) (hgb : ogr bx by_) (hgc : ogr cx cy) : Ci l D cZ cI cJ yX3_sideOf cX3_sideOf 13 (some .int) { frames := 5, cells := 0, slots := 0, locals := 127 } [.ref o, .long ax, .long ay, .long bx, .long by_, .long cx, .long cy] [(o, .inr (3, [.ref tl, .ref sx, .ref sy, .ref wx, .ref wy, .ref kx, .ref ky, .int cn, .int ph, .ref fx, .ref fy, .ref dv, .ref sp, .ref p1, .ref p2])), (sp, .inr (2, [.long sh, .long sl]))] (S := Int64 × Int64) (fun z u => z = sg (det ax.toInt ay.toInt bx.toInt by_.toInt cx.toInt cy.toInt)) (fun u => [(o, .inr (3, [.ref tl, .ref sx, .ref sy, .ref wx, .ref wy, .ref kx, .ref ky, .int cn, .int ph, .ref fx, .ref fy, .ref dv, .ref sp, .ref p1, .ref p2])), (sp, .inr (2, [.long u.1, .long u.2]))]) := by
  refine Ci.of (by decide) ?_
  intro p e s m args below meth c A Q hB hret hP hD hA
  obtain ⟨hx, hb, hr, hlocks, hml, hown, hnm, hTB, hK⟩ := hB
  have hown : s.vm.findClass RX3 = some m.cls := hown
  have hS : va_S A s.heap s.heap [] := va_S.rf
  have e1 : (bx - ax).toInt = bx.toInt - ax.toInt := sub_rng (by omega) (by omega)
  have e2 : (by_ - ay).toInt = by_.toInt - ay.toInt := sub_rng (by omega) (by omega)
  have e3 : (cx - ax).toInt = cx.toInt - ax.toInt := sub_rng (by omega) (by omega)
  have e4 : (cy - ay).toInt = cy.toInt - ay.toInt := sub_rng (by omega) (by omega)
  have m1 := mul_bd (x := bx.toInt - ax.toInt) (y := cy.toInt - ay.toInt) (X := 2199023255552) (Y := 2199023255552) (by omega) (by omega) (by omega) (by omega)
  have m2 := mul_bd (x := by_.toInt - ay.toInt) (y := cx.toInt - ax.toInt) (X := 2199023255552) (Y := 2199023255552) (by omega) (by omega) (by omega) (by omega)
  have hl := lv_entry ([.ref o, .long ax, .long ay, .long bx, .long by_, .long cx, .long cy]) (n := 13) (Nat.le_of_ble_eq_true rfl)
  rw [lg_entry_eq]
  generalize (lg_sl ([.ref o, .long ax, .long ay, .long bx, .long by_, .long cx, .long cy]) ++ List.replicate (13 - (lg_sl ([.ref o, .long ax, .long ay, .long bx, .long by_, .long cx, .long cy])).length) Slot.unset).toArray = ls at hl ⊢
  have hl : lv_has ls 13 [(0, .ref o), (1, .long ax), (3, .long ay), (5, .long bx), (7, .long by_), (9, .long cx), (11, .long cy)] := hl
  refine lv_aload_n hx hb dX3_sideOf_0 rfl (lv_at hl 0 rfl) ?_
  refine va_get (D := D) (ci := 3) (v := .ref sp) (C := RX3) (T := TX3) (N := 15) hx hb hTB tb_X3 hown hK.1 hP 0 rfl rfl 12 (by decide) (hTB _ tb_2_10) (fun _ h9 => h9) rfl dX3_sideOf_1 ?_
  refine lv_lload hx hb dX3_sideOf_4 (lv_at hl 3 rfl) ?_
  refine lv_lload_n hx hb dX3_sideOf_6 rfl (lv_at hl 1 rfl) ?_
  refine lv_lsub hx hb dX3_sideOf_7 ?_
  refine lv_lload hx hb dX3_sideOf_8 (lv_at hl 4 rfl) ?_
  refine lv_lload_n hx hb dX3_sideOf_10 rfl (lv_at hl 2 rfl) ?_
  refine lv_lsub hx hb dX3_sideOf_11 ?_
  refine lv_lload hx hb dX3_sideOf_12 (lv_at hl 5 rfl) ?_
  refine lv_lload_n hx hb dX3_sideOf_14 rfl (lv_at hl 1 rfl) ?_
  refine lv_lsub hx hb dX3_sideOf_15 ?_
  refine lv_lload hx hb dX3_sideOf_16 (lv_at hl 6 rfl) ?_
  refine lv_lload_n hx hb dX3_sideOf_18 rfl (lv_at hl 2 rfl) ?_
  refine lv_lsub hx hb dX3_sideOf_19 ?_
  refine fin_v (wr := [(o, .inr (3, [.ref tl, .ref sx, .ref sy, .ref wx, .ref wy, .ref kx, .ref ky, .int cn, .int ph, .ref fx, .ref fy, .ref dv, .ref sp, .ref p1, .ref p2]))]) (va_runV (As := [.long (bx - ax), .long (by_ - ay), .long (cx - ax), .long (cy - ay)]) (rest := []) ⟨hx, hb, hml, hown, hTB⟩ (c_X2_putSpan l D cZ cI cJ sp sh sl (bx - ax) (by_ - ay) (cx - ax) (cy - ay) _) (cw_V hTB tb_4_16 tb_2_9 tb_4_13 tb_4_14 tb_4_15 nd_X2_putSpan rfl rfl ⟨Nat.le_of_ble_eq_true rfl, Nat.le_of_ble_eq_true rfl⟩) (pre_V (q0 := 1) hK hP hD [1] rfl rfl rfl rfl) rfl rfl hl.1 rfl (lv_room (Nat.le_of_ble_eq_true rfl)) dX3_sideOf_20 ⟨Nat.le_of_ble_eq_true rfl, Nat.le_of_ble_eq_true rfl⟩) hP hD hS hA [1] [0] rfl rfl rfl (by decide) (fun u20 H locs hc20 hP hD hS => ?_)
  obtain ⟨w20h, w20l⟩ := u20
  try dsimp only at hc20
  have hP : va_P D vwCl [(o, .inr (3, [.ref tl, .ref sx, .ref sy, .ref wx, .ref wy, .ref kx, .ref ky, .int cn, .int ph, .ref fx, .ref fy, .ref dv, .ref sp, .ref p1, .ref p2])), (sp, .inr (2, [.long w20h, .long w20l]))] H := hP
  have hD : va_D A [(o, .inr (3, [.ref tl, .ref sx, .ref sy, .ref wx, .ref wy, .ref kx, .ref ky, .int cn, .int ph, .ref fx, .ref fy, .ref dv, .ref sp, .ref p1, .ref p2])), (sp, .inr (2, [.long w20h, .long w20l]))] := hD
  refine lv_aload_n hx hb dX3_sideOf_23 rfl (lv_at hl 0 rfl) ?_
  refine va_get (D := D) (ci := 3) (v := .ref sp) (C := RX3) (T := TX3) (N := 15) hx hb hTB tb_X3 hown hK.1 hP 0 rfl rfl 12 (by decide) (hTB _ tb_2_10) (fun _ h9 => h9) rfl dX3_sideOf_24 ?_
  refine vp_callSi (va_runV (As := []) (rest := []) ⟨hx, hb, hml, hown, hTB⟩ (c_X2_sign l D cZ cI cJ sp w20h w20l) (cw_V hTB tb_5_23 tb_2_9 tb_5_20 tb_5_21 tb_5_22 nd_X2_sign rfl rfl ⟨Nat.le_of_ble_eq_true rfl, Nat.le_of_ble_eq_true rfl⟩) (prr_V (q0 := 1) hK hP [1] rfl rfl rfl) rfl rfl hl.1 rfl (lv_room (Nat.le_of_ble_eq_true rfl)) dX3_sideOf_27 ⟨Nat.le_of_ble_eq_true rfl, Nat.le_of_ble_eq_true rfl⟩).run (fun r27 hc27 => ?_)
  subst hc27
  exact hret hP hD hS rfl (w20h, w20l) (by rw [e1, e2, e3, e4] at hc20; rw [hc20 (by omega) (by unfold In; omega) (by unfold In; omega)]; rfl) [0, 1] rfl (by decide) dX3_sideOf_30 (Nat.le_of_ble_eq_true rfl) (Nat.le_of_ble_eq_true rfl)

set_option maxHeartbeats 4000000 in
set_option maxRecDepth 100000 in
theorem c_X3_meetsRay (l : Launch) (D : va_G) (cZ cI cJ : ClassId) (x z v : Int64) (side : Int32) : Ri l D cZ cI cJ yX3_meetsRay cX3_meetsRay 7 (some .boolean) { frames := 0, cells := 0, slots := 0, locals := 0 } [.long x, .long z, .long v, .int side] [] (fun r => r = bz (mry x z v side)) := by
  refine Ri.of (by decide) ?_
  intro p e s m args below meth c Q hB hret hP
  obtain ⟨hx, hb, hr, hlocks, hml, hown, hnm, hTB, hK⟩ := hB
  have hown : s.vm.findClass RX3 = some m.cls := hown
  have hl := lv_entry ([.long x, .long z, .long v, .int side]) (n := 7) (Nat.le_of_ble_eq_true rfl)
  rw [lg_entry_eq]
  generalize (lg_sl ([.long x, .long z, .long v, .int side]) ++ List.replicate (7 - (lg_sl ([.long x, .long z, .long v, .int side])).length) Slot.unset).toArray = ls at hl ⊢
  have hl : lv_has ls 7 [(0, .long x), (2, .long z), (4, .long v), (6, .int side)] := hl
  refine lv_lload_n hx hb dX3_meetsRay_0 rfl (lv_at hl 0 rfl) ?_
  refine lv_lload hx hb dX3_meetsRay_1 (lv_at hl 2 rfl) ?_
  refine W.lcmp hx hb dX3_meetsRay_3 ?_
  refine lv_if_gt (tgt := 25) hx hb dX3_meetsRay_4 (by decide) (fun c_4 => ?_) (fun c_4 => ?_)
  · have c_4 : v.toInt < x.toInt := lc_gt c_4
    refine lv_lload_n hx hb dX3_meetsRay_25 rfl (lv_at hl 1 rfl) ?_
    refine lv_lload hx hb dX3_meetsRay_26 (lv_at hl 2 rfl) ?_
    refine W.lcmp hx hb dX3_meetsRay_28 ?_
    refine lv_if_gt (tgt := 48) hx hb dX3_meetsRay_29 (by decide) (fun c_29 => ?_) (fun c_29 => ?_)
    · have c_29 : v.toInt < z.toInt := lc_gt c_29
      refine lv_iconst (v := 0) hx hb dX3_meetsRay_48 (by decide) ?_
      exact hret rfl (bz_f (by omega)) dX3_meetsRay_49
    · have c_29 : z.toInt ≤ v.toInt := lc_ngt c_29
      refine lv_lload hx hb dX3_meetsRay_32 (lv_at hl 2 rfl) ?_
      refine lv_lload_n hx hb dX3_meetsRay_34 rfl (lv_at hl 0 rfl) ?_
      refine W.lcmp hx hb dX3_meetsRay_35 ?_
      refine lv_if_ge (tgt := 48) hx hb dX3_meetsRay_36 (by decide) (fun c_36 => ?_) (fun c_36 => ?_)
      · have c_36 : x.toInt ≤ v.toInt := lc_ge c_36
        refine lv_iconst (v := 0) hx hb dX3_meetsRay_48 (by decide) ?_
        exact hret rfl (bz_f (by omega)) dX3_meetsRay_49
      · have c_36 : v.toInt < x.toInt := lc_nge c_36
        refine lv_iload hx hb dX3_meetsRay_39 (lv_at hl 3 rfl) ?_
        refine lv_if_ge (tgt := 48) hx hb dX3_meetsRay_41 (by decide) (fun c_41 => ?_) (fun c_41 => ?_)
        · have c_41 : (0 : Int) ≤ side.toInt := ic_le c_41
          refine lv_iconst (v := 0) hx hb dX3_meetsRay_48 (by decide) ?_
          exact hret rfl (bz_f (by omega)) dX3_meetsRay_49
        · have c_41 : side.toInt < (0 : Int) := ic_nle c_41
          refine lv_iconst (v := 1) hx hb dX3_meetsRay_44 (by decide) ?_
          refine lv_goto (tgt := 49) hx hb dX3_meetsRay_45 (by decide) ?_
          exact hret rfl (bz_t (by omega)) dX3_meetsRay_49
  · have c_4 : x.toInt ≤ v.toInt := lc_ngt c_4
    refine lv_lload hx hb dX3_meetsRay_7 (lv_at hl 2 rfl) ?_
    refine lv_lload_n hx hb dX3_meetsRay_9 rfl (lv_at hl 1 rfl) ?_
    refine W.lcmp hx hb dX3_meetsRay_10 ?_
    refine lv_if_ge (tgt := 25) hx hb dX3_meetsRay_11 (by decide) (fun c_11 => ?_) (fun c_11 => ?_)
    · have c_11 : z.toInt ≤ v.toInt := lc_ge c_11
      refine lv_lload_n hx hb dX3_meetsRay_25 rfl (lv_at hl 1 rfl) ?_
      refine lv_lload hx hb dX3_meetsRay_26 (lv_at hl 2 rfl) ?_
      refine W.lcmp hx hb dX3_meetsRay_28 ?_
      refine lv_if_gt (tgt := 48) hx hb dX3_meetsRay_29 (by decide) (fun c_29 => ?_) (fun c_29 => ?_)
      · have c_29 : v.toInt < z.toInt := lc_gt c_29
        refine lv_iconst (v := 0) hx hb dX3_meetsRay_48 (by decide) ?_
        exact hret rfl (bz_f (by omega)) dX3_meetsRay_49
      · have c_29 : z.toInt ≤ v.toInt := lc_ngt c_29
        refine lv_lload hx hb dX3_meetsRay_32 (lv_at hl 2 rfl) ?_
        refine lv_lload_n hx hb dX3_meetsRay_34 rfl (lv_at hl 0 rfl) ?_
        refine W.lcmp hx hb dX3_meetsRay_35 ?_
        refine lv_if_ge (tgt := 48) hx hb dX3_meetsRay_36 (by decide) (fun c_36 => ?_) (fun c_36 => ?_)
        · have c_36 : x.toInt ≤ v.toInt := lc_ge c_36
          refine lv_iconst (v := 0) hx hb dX3_meetsRay_48 (by decide) ?_
          exact hret rfl (bz_f (by omega)) dX3_meetsRay_49
        · have c_36 : v.toInt < x.toInt := lc_nge c_36
          refine lv_iload hx hb dX3_meetsRay_39 (lv_at hl 3 rfl) ?_
          refine lv_if_ge (tgt := 48) hx hb dX3_meetsRay_41 (by decide) (fun c_41 => ?_) (fun c_41 => ?_)
          · have c_41 : (0 : Int) ≤ side.toInt := ic_le c_41
            refine lv_iconst (v := 0) hx hb dX3_meetsRay_48 (by decide) ?_
            exact hret rfl (bz_f (by omega)) dX3_meetsRay_49
          · have c_41 : side.toInt < (0 : Int) := ic_nle c_41
            refine lv_iconst (v := 1) hx hb dX3_meetsRay_44 (by decide) ?_
            refine lv_goto (tgt := 49) hx hb dX3_meetsRay_45 (by decide) ?_
            exact hret rfl (bz_t (by omega)) dX3_meetsRay_49
    · have c_11 : v.toInt < z.toInt := lc_nge c_11
      refine lv_iload hx hb dX3_meetsRay_14 (lv_at hl 3 rfl) ?_
      refine lv_if_le (tgt := 23) hx hb dX3_meetsRay_16 (by decide) (fun c_16 => ?_) (fun c_16 => ?_)
      · have c_16 : side.toInt ≤ (0 : Int) := ic_le c_16
        refine lv_iconst (v := 0) hx hb dX3_meetsRay_23 (by decide) ?_
        exact hret rfl (bz_f (by omega)) dX3_meetsRay_24
      · have c_16 : (0 : Int) < side.toInt := ic_nle c_16
        refine lv_iconst (v := 1) hx hb dX3_meetsRay_19 (by decide) ?_
        refine lv_goto (tgt := 24) hx hb dX3_meetsRay_20 (by decide) ?_
        exact hret rfl (bz_t (by omega)) dX3_meetsRay_24

set_option maxHeartbeats 4000000 in
set_option maxRecDepth 100000 in
theorem c_X3_isPartOfSpan (l : Launch) (D : va_G) (cZ cI cJ : ClassId) (o tl sx sy wx wy kx ky fx fy dv sp p1 p2 : Nat) (cn ph : Int32) (sh sl : Int64) (pa : Nat) (ph2 pl2 : Int64) : Ri l D cZ cI cJ yX3_isPartOfSpan cX3_isPartOfSpan 2 (some .boolean) { frames := 2, cells := 0, slots := 0, locals := 44 } [.ref o, .ref pa] [(o, .inr (3, [.ref tl, .ref sx, .ref sy, .ref wx, .ref wy, .ref kx, .ref ky, .int cn, .int ph, .ref fx, .ref fy, .ref dv, .ref sp, .ref p1, .ref p2])), (sp, .inr (2, [.long sh, .long sl])), (pa, .inr (2, [.long ph2, .long pl2]))] (fun r => r = bz (0 ≤ wv ph2 pl2 ∧ wv ph2 pl2 ≤ wv sh sl)) := by
  refine Ri.of (by decide) ?_
  intro p e s m args below meth c Q hB hret hP
  obtain ⟨hx, hb, hr, hlocks, hml, hown, hnm, hTB, hK⟩ := hB
  have hown : s.vm.findClass RX3 = some m.cls := hown
  have hl := lv_entry ([.ref o, .ref pa]) (n := 2) (Nat.le_of_ble_eq_true rfl)
  rw [lg_entry_eq]
  generalize (lg_sl ([.ref o, .ref pa]) ++ List.replicate (2 - (lg_sl ([.ref o, .ref pa])).length) Slot.unset).toArray = ls at hl ⊢
  have hl : lv_has ls 2 [(0, .ref o), (1, .ref pa)] := hl
  refine lv_aload_n hx hb dX3_isPartOfSpan_0 rfl (lv_at hl 1 rfl) ?_
  refine vp_callSi (va_runV (As := []) (rest := []) ⟨hx, hb, hml, hown, hTB⟩ (c_X2_sign l D cZ cI cJ pa ph2 pl2) (cw_V hTB tb_5_23 tb_2_9 tb_5_20 tb_5_21 tb_5_22 nd_X2_sign rfl rfl ⟨Nat.le_of_ble_eq_true rfl, Nat.le_of_ble_eq_true rfl⟩) (prr_V (q0 := 2) hK hP [2] rfl rfl rfl) rfl rfl hl.1 rfl (lv_room (Nat.le_of_ble_eq_true rfl)) dX3_isPartOfSpan_1 ⟨Nat.le_of_ble_eq_true rfl, Nat.le_of_ble_eq_true rfl⟩).run (fun r1 hc1 => ?_)
  subst hc1
  refine lv_if_lt (tgt := 22) hx hb dX3_isPartOfSpan_4 (by decide) (fun c_4 => ?_) (fun c_4 => ?_)
  · have c_4 := sg_ltt c_4
    refine lv_iconst (v := 0) hx hb dX3_isPartOfSpan_22 (by decide) ?_
    exact hret rfl (bz_f (by omega)) dX3_isPartOfSpan_23
  · have c_4 := sg_ltf c_4
    refine lv_aload_n hx hb dX3_isPartOfSpan_7 rfl (lv_at hl 1 rfl) ?_
    refine lv_aload_n hx hb dX3_isPartOfSpan_8 rfl (lv_at hl 0 rfl) ?_
    refine va_get (D := D) (ci := 3) (v := .ref sp) (C := RX3) (T := TX3) (N := 15) hx hb hTB tb_X3 hown hK.1 hP 0 rfl rfl 12 (by decide) (hTB _ tb_2_10) (fun _ h9 => h9) rfl dX3_isPartOfSpan_9 ?_
    refine vp_callSi (va_runV (As := [.ref sp]) (rest := []) ⟨hx, hb, hml, hown, hTB⟩ (c_X2_compare l D cZ cI cJ pa sp ph2 pl2 sh sl) (cw_V hTB tb_9_22 tb_2_9 tb_9_19 tb_9_20 tb_9_21 nd_X2_compare rfl rfl ⟨Nat.le_of_ble_eq_true rfl, Nat.le_of_ble_eq_true rfl⟩) (prr_V (q0 := 2) hK hP [2, 1] rfl rfl rfl) rfl rfl hl.1 rfl (lv_room (Nat.le_of_ble_eq_true rfl)) dX3_isPartOfSpan_12 ⟨Nat.le_of_ble_eq_true rfl, Nat.le_of_ble_eq_true rfl⟩).run (fun r12 hc12 => ?_)
    subst hc12
    refine lv_if_gt (tgt := 22) hx hb dX3_isPartOfSpan_15 (by decide) (fun c_15 => ?_) (fun c_15 => ?_)
    · have c_15 := cm_gtt c_15
      refine lv_iconst (v := 0) hx hb dX3_isPartOfSpan_22 (by decide) ?_
      exact hret rfl (bz_f (by omega)) dX3_isPartOfSpan_23
    · have c_15 := cm_gtf c_15
      refine lv_iconst (v := 1) hx hb dX3_isPartOfSpan_18 (by decide) ?_
      refine lv_goto (tgt := 23) hx hb dX3_isPartOfSpan_19 (by decide) ?_
      exact hret rfl (bz_t (by omega)) dX3_isPartOfSpan_23

set_option maxHeartbeats 4000000 in
set_option maxRecDepth 100000 in
theorem c_X3_turn (l : Launch) (D : va_G) (cZ cI cJ : ClassId) (o tl sx sy wx wy kx ky fx fy dv sp p1 p2 : Nat) (cn ph : Int32) (sh sl : Int64) (ax ay bx by_ cx cy : Int64) : Ci l D cZ cI cJ yX3_turn cX3_turn 13 (some .int) { frames := 6, cells := 0, slots := 0, locals := 159 } [.ref o, .long ax, .long ay, .long bx, .long by_, .long cx, .long cy] [(o, .inr (3, [.ref tl, .ref sx, .ref sy, .ref wx, .ref wy, .ref kx, .ref ky, .int cn, .int ph, .ref fx, .ref fy, .ref dv, .ref sp, .ref p1, .ref p2])), (sp, .inr (2, [.long sh, .long sl]))] (S := Int64 × Int64) (fun z u => z = trn ax ay bx by_ cx cy) (fun u => [(o, .inr (3, [.ref tl, .ref sx, .ref sy, .ref wx, .ref wy, .ref kx, .ref ky, .int cn, .int ph, .ref fx, .ref fy, .ref dv, .ref sp, .ref p1, .ref p2])), (sp, .inr (2, [.long u.1, .long u.2]))]) := by
  refine Ci.of (by decide) ?_
  intro p e s m args below meth c A Q hB hret hP hD hA
  obtain ⟨hx, hb, hr, hlocks, hml, hown, hnm, hTB, hK⟩ := hB
  have hown : s.vm.findClass RX3 = some m.cls := hown
  have hS : va_S A s.heap s.heap [] := va_S.rf
  have hl := lv_entry ([.ref o, .long ax, .long ay, .long bx, .long by_, .long cx, .long cy]) (n := 13) (Nat.le_of_ble_eq_true rfl)
  rw [lg_entry_eq]
  generalize (lg_sl ([.ref o, .long ax, .long ay, .long bx, .long by_, .long cx, .long cy]) ++ List.replicate (13 - (lg_sl ([.ref o, .long ax, .long ay, .long bx, .long by_, .long cx, .long cy])).length) Slot.unset).toArray = ls at hl ⊢
  have hl : lv_has ls 13 [(0, .ref o), (1, .long ax), (3, .long ay), (5, .long bx), (7, .long by_), (9, .long cx), (11, .long cy)] := hl
  refine lv_lload_n hx hb dX3_turn_0 rfl (lv_at hl 1 rfl) ?_
  refine lv_lload_n hx hb dX3_turn_1 rfl (lv_at hl 2 rfl) ?_
  refine vp_callSi (va_runS (As := [.long ax, .long ay]) (rest := []) ⟨hx, hb, hml, hown, hTB⟩ (c_X3_isOnGrid l D cZ cI cJ ax ay) (cw_S hTB tb_4_6 tb_1_2 tb_4_4 tb_4_5 nd_X3_isOnGrid rfl rfl ⟨Nat.le_of_ble_eq_true rfl, Nat.le_of_ble_eq_true rfl⟩) (prr_S hK hP [] rfl) rfl rfl hl.1 rfl (lv_room (Nat.le_of_ble_eq_true rfl)) dX3_turn_2 ⟨Nat.le_of_ble_eq_true rfl, Nat.le_of_ble_eq_true rfl⟩).run (fun r2 hc2 => ?_)
  subst hc2
  refine lv_if_eq (tgt := 28) hx hb dX3_turn_5 (by decide) (fun c_5 => ?_) (fun c_5 => ?_)
  · have c_5 := bz_0 c_5
    refine lv_bipush (v := (-2)) hx hb dX3_turn_28 (by decide) ?_
    exact hret hP hD hS rfl (sh, sl) (by unfold trn; rw [if_neg]; intro q; exact c_5 q.1) [0, 1] rfl (by decide) dX3_turn_30 (Nat.le_of_ble_eq_true rfl) (Nat.le_of_ble_eq_true rfl)
  · have c_5 := bz_1 c_5
    refine lv_lload hx hb dX3_turn_8 (lv_at hl 3 rfl) ?_
    refine lv_lload hx hb dX3_turn_10 (lv_at hl 4 rfl) ?_
    refine vp_callSi (va_runS (As := [.long bx, .long by_]) (rest := []) ⟨hx, hb, hml, hown, hTB⟩ (c_X3_isOnGrid l D cZ cI cJ bx by_) (cw_S hTB tb_4_6 tb_1_2 tb_4_4 tb_4_5 nd_X3_isOnGrid rfl rfl ⟨Nat.le_of_ble_eq_true rfl, Nat.le_of_ble_eq_true rfl⟩) (prr_S hK hP [] rfl) rfl rfl hl.1 rfl (lv_room (Nat.le_of_ble_eq_true rfl)) dX3_turn_12 ⟨Nat.le_of_ble_eq_true rfl, Nat.le_of_ble_eq_true rfl⟩).run (fun r12 hc12 => ?_)
    subst hc12
    refine lv_if_eq (tgt := 28) hx hb dX3_turn_15 (by decide) (fun c_15 => ?_) (fun c_15 => ?_)
    · have c_15 := bz_0 c_15
      refine lv_bipush (v := (-2)) hx hb dX3_turn_28 (by decide) ?_
      exact hret hP hD hS rfl (sh, sl) (by unfold trn; rw [if_neg]; intro q; exact c_15 q.2.1) [0, 1] rfl (by decide) dX3_turn_30 (Nat.le_of_ble_eq_true rfl) (Nat.le_of_ble_eq_true rfl)
    · have c_15 := bz_1 c_15
      refine lv_lload hx hb dX3_turn_18 (lv_at hl 5 rfl) ?_
      refine lv_lload hx hb dX3_turn_20 (lv_at hl 6 rfl) ?_
      refine vp_callSi (va_runS (As := [.long cx, .long cy]) (rest := []) ⟨hx, hb, hml, hown, hTB⟩ (c_X3_isOnGrid l D cZ cI cJ cx cy) (cw_S hTB tb_4_6 tb_1_2 tb_4_4 tb_4_5 nd_X3_isOnGrid rfl rfl ⟨Nat.le_of_ble_eq_true rfl, Nat.le_of_ble_eq_true rfl⟩) (prr_S hK hP [] rfl) rfl rfl hl.1 rfl (lv_room (Nat.le_of_ble_eq_true rfl)) dX3_turn_22 ⟨Nat.le_of_ble_eq_true rfl, Nat.le_of_ble_eq_true rfl⟩).run (fun r22 hc22 => ?_)
      subst hc22
      refine lv_if_ne (tgt := 31) hx hb dX3_turn_25 (by decide) (fun c_25 => ?_) (fun c_25 => ?_)
      · have c_25 := bz_1 c_25
        refine lv_aload_n hx hb dX3_turn_31 rfl (lv_at hl 0 rfl) ?_
        refine lv_lload_n hx hb dX3_turn_32 rfl (lv_at hl 1 rfl) ?_
        refine lv_lload_n hx hb dX3_turn_33 rfl (lv_at hl 2 rfl) ?_
        refine lv_lload hx hb dX3_turn_34 (lv_at hl 3 rfl) ?_
        refine lv_lload hx hb dX3_turn_36 (lv_at hl 4 rfl) ?_
        refine lv_lload hx hb dX3_turn_38 (lv_at hl 5 rfl) ?_
        refine lv_lload hx hb dX3_turn_40 (lv_at hl 6 rfl) ?_
        refine fin_i (wr := []) (va_runV (As := [.long ax, .long ay, .long bx, .long by_, .long cx, .long cy]) (rest := []) ⟨hx, hb, hml, hown, hTB⟩ (c_X3_sideOf l D cZ cI cJ o tl sx sy wx wy kx ky fx fy dv sp p1 p2 cn ph sh sl ax ay bx by_ cx cy c_5 c_15 c_25 _) (cw_V hTB tb_4_12 tb_1_2 tb_4_9 tb_4_10 tb_4_11 nd_X3_sideOf rfl rfl ⟨Nat.le_of_ble_eq_true rfl, Nat.le_of_ble_eq_true rfl⟩) (pre_V (q0 := 0) hK hP hD [0, 1] rfl rfl rfl rfl) rfl rfl hl.1 rfl (lv_room (Nat.le_of_ble_eq_true rfl)) dX3_turn_42 ⟨Nat.le_of_ble_eq_true rfl, Nat.le_of_ble_eq_true rfl⟩) hP hD hS hA [0, 1] [] rfl rfl rfl (by decide) (fun r42 u42 H locs hc42 hP hD hS => ?_)
        obtain ⟨w42h, w42l⟩ := u42
        try dsimp only at hc42
        have hP : va_P D vwCl [(o, .inr (3, [.ref tl, .ref sx, .ref sy, .ref wx, .ref wy, .ref kx, .ref ky, .int cn, .int ph, .ref fx, .ref fy, .ref dv, .ref sp, .ref p1, .ref p2])), (sp, .inr (2, [.long w42h, .long w42l]))] H := hP
        have hD : va_D A [(o, .inr (3, [.ref tl, .ref sx, .ref sy, .ref wx, .ref wy, .ref kx, .ref ky, .int cn, .int ph, .ref fx, .ref fy, .ref dv, .ref sp, .ref p1, .ref p2])), (sp, .inr (2, [.long w42h, .long w42l]))] := hD
        subst hc42
        exact hret hP hD hS rfl (w42h, w42l) (by unfold trn; rw [if_pos ⟨c_5, c_15, c_25⟩]) [0, 1] rfl (by decide) dX3_turn_45 (Nat.le_of_ble_eq_true rfl) (Nat.le_of_ble_eq_true rfl)
      · have c_25 := bz_0 c_25
        refine lv_bipush (v := (-2)) hx hb dX3_turn_28 (by decide) ?_
        exact hret hP hD hS rfl (sh, sl) (by unfold trn; rw [if_neg]; intro q; exact c_25 q.2.2) [0, 1] rfl (by decide) dX3_turn_30 (Nat.le_of_ble_eq_true rfl) (Nat.le_of_ble_eq_true rfl)

set_option maxHeartbeats 4000000 in
set_option maxRecDepth 100000 in
theorem c_X3_line (l : Launch) (D : va_G) (cZ cI cJ : ClassId) (o tl sx sy wx wy kx ky fx fy dv sp p1 p2 : Nat) (cn ph : Int32) (ft : Nat → Int32) (fsx fsy fwx fwy : Nat → Int64) (k : Int32) (x0 y0 x1 y1 : Int64) : Ci l D cZ cI cJ yX3_line cX3_line 10 (some .boolean) { frames := 1, cells := 0, slots := 0, locals := 23 } [.ref o, .int k, .long x0, .long y0, .long x1, .long y1] [(o, .inr (3, [.ref tl, .ref sx, .ref sy, .ref wx, .ref wy, .ref kx, .ref ky, .int cn, .int ph, .ref fx, .ref fy, .ref dv, .ref sp, .ref p1, .ref p2])), (tl, .inl (cZ, 16, .inl ft)), (sx, .inl (cJ, 16, .inr (.inl fsx))), (sy, .inl (cJ, 16, .inr (.inl fsy))), (wx, .inl (cJ, 16, .inr (.inl fwx))), (wy, .inl (cJ, 16, .inr (.inl fwy)))] (S := (Nat → Int32) × (Nat → Int64) × (Nat → Int64) × (Nat → Int64) × (Nat → Int64)) (fun z u => z = bz (lnok k x0 y0 x1 y1) ∧ (lnok k x0 y0 x1 y1 → u = (upd ft k.toNatClampNeg 1, vp_updL fsx k.toNatClampNeg x0, vp_updL fsy k.toNatClampNeg y0, vp_updL fwx k.toNatClampNeg (x1 - x0), vp_updL fwy k.toNatClampNeg (y1 - y0))) ∧ (¬ lnok k x0 y0 x1 y1 → u = (ft, fsx, fsy, fwx, fwy))) (fun u => [(o, .inr (3, [.ref tl, .ref sx, .ref sy, .ref wx, .ref wy, .ref kx, .ref ky, .int cn, .int ph, .ref fx, .ref fy, .ref dv, .ref sp, .ref p1, .ref p2])), (tl, .inl (cZ, 16, .inl u.1)), (sx, .inl (cJ, 16, .inr (.inl u.2.1))), (sy, .inl (cJ, 16, .inr (.inl u.2.2.1))), (wx, .inl (cJ, 16, .inr (.inl u.2.2.2.1))), (wy, .inl (cJ, 16, .inr (.inl u.2.2.2.2)))]) := by
  refine Ci.of (by decide) ?_
  intro p e s m args below meth c A Q hB hret hP hD hA
  obtain ⟨hx, hb, hr, hlocks, hml, hown, hnm, hTB, hK⟩ := hB
  have hown : s.vm.findClass RX3 = some m.cls := hown
  have hS : va_S A s.heap s.heap [] := va_S.rf
  have hl := lv_entry ([.ref o, .int k, .long x0, .long y0, .long x1, .long y1]) (n := 10) (Nat.le_of_ble_eq_true rfl)
  rw [lg_entry_eq]
  generalize (lg_sl ([.ref o, .int k, .long x0, .long y0, .long x1, .long y1]) ++ List.replicate (10 - (lg_sl ([.ref o, .int k, .long x0, .long y0, .long x1, .long y1])).length) Slot.unset).toArray = ls at hl ⊢
  have hl : lv_has ls 10 [(0, .ref o), (1, .int k), (2, .long x0), (4, .long y0), (6, .long x1), (8, .long y1)] := hl
  refine lv_iload_n hx hb dX3_line_0 rfl (lv_at hl 1 rfl) ?_
  refine lv_if_lt (tgt := 29) hx hb dX3_line_1 (by decide) (fun c_1 => ?_) (fun c_1 => ?_)
  · have c_1 : k.toInt < (0 : Int) := ic_lt c_1
    refine lv_iconst (v := 0) hx hb dX3_line_29 (by decide) ?_
    exact hret hP hD hS rfl (ft, fsx, fsy, fwx, fwy) (⟨bz_f (fun q => absurd q.1 (by omega)), fun q => absurd q (fun q => absurd q.1 (by omega)), fun _ => rfl⟩) [0, 1, 2, 3, 4, 5] rfl (by decide) dX3_line_30 (Nat.le_of_ble_eq_true rfl) (Nat.le_of_ble_eq_true rfl)
  · have c_1 : (0 : Int) ≤ k.toInt := ic_nlt c_1
    refine lv_iload_n hx hb dX3_line_4 rfl (lv_at hl 1 rfl) ?_
    refine lv_bipush (v := 16) hx hb dX3_line_5 (by decide) ?_
    refine lv_icmp_ge (tgt := 29) hx hb dX3_line_7 (by decide) (fun c_7 => ?_) (fun c_7 => ?_)
    · have c_7 : (16 : Int) ≤ k.toInt := ic_le c_7
      refine lv_iconst (v := 0) hx hb dX3_line_29 (by decide) ?_
      exact hret hP hD hS rfl (ft, fsx, fsy, fwx, fwy) (⟨bz_f (fun q => absurd q.2.1 (by omega)), fun q => absurd q (fun q => absurd q.2.1 (by omega)), fun _ => rfl⟩) [0, 1, 2, 3, 4, 5] rfl (by decide) dX3_line_30 (Nat.le_of_ble_eq_true rfl) (Nat.le_of_ble_eq_true rfl)
    · have c_7 : k.toInt < (16 : Int) := ic_nle c_7
      refine lv_lload_n hx hb dX3_line_10 rfl (lv_at hl 2 rfl) ?_
      refine lv_lload hx hb dX3_line_11 (lv_at hl 3 rfl) ?_
      refine vp_callSi (va_runS (As := [.long x0, .long y0]) (rest := []) ⟨hx, hb, hml, hown, hTB⟩ (c_X3_isOnGrid l D cZ cI cJ x0 y0) (cw_S hTB tb_4_6 tb_1_2 tb_4_4 tb_4_5 nd_X3_isOnGrid rfl rfl ⟨Nat.le_of_ble_eq_true rfl, Nat.le_of_ble_eq_true rfl⟩) (prr_S hK hP [] rfl) rfl rfl hl.1 rfl (lv_room (Nat.le_of_ble_eq_true rfl)) dX3_line_13 ⟨Nat.le_of_ble_eq_true rfl, Nat.le_of_ble_eq_true rfl⟩).run (fun r13 hc13 => ?_)
      subst hc13
      refine lv_if_eq (tgt := 29) hx hb dX3_line_16 (by decide) (fun c_16 => ?_) (fun c_16 => ?_)
      · have c_16 := bz_0 c_16
        refine lv_iconst (v := 0) hx hb dX3_line_29 (by decide) ?_
        exact hret hP hD hS rfl (ft, fsx, fsy, fwx, fwy) (⟨bz_f (fun q => c_16 q.2.2.1), fun q => absurd q (fun q => c_16 q.2.2.1), fun _ => rfl⟩) [0, 1, 2, 3, 4, 5] rfl (by decide) dX3_line_30 (Nat.le_of_ble_eq_true rfl) (Nat.le_of_ble_eq_true rfl)
      · have c_16 := bz_1 c_16
        refine lv_lload hx hb dX3_line_19 (lv_at hl 4 rfl) ?_
        refine lv_lload hx hb dX3_line_21 (lv_at hl 5 rfl) ?_
        refine vp_callSi (va_runS (As := [.long x1, .long y1]) (rest := []) ⟨hx, hb, hml, hown, hTB⟩ (c_X3_isOnGrid l D cZ cI cJ x1 y1) (cw_S hTB tb_4_6 tb_1_2 tb_4_4 tb_4_5 nd_X3_isOnGrid rfl rfl ⟨Nat.le_of_ble_eq_true rfl, Nat.le_of_ble_eq_true rfl⟩) (prr_S hK hP [] rfl) rfl rfl hl.1 rfl (lv_room (Nat.le_of_ble_eq_true rfl)) dX3_line_23 ⟨Nat.le_of_ble_eq_true rfl, Nat.le_of_ble_eq_true rfl⟩).run (fun r23 hc23 => ?_)
        subst hc23
        refine lv_if_ne (tgt := 31) hx hb dX3_line_26 (by decide) (fun c_26 => ?_) (fun c_26 => ?_)
        · have c_26 := bz_1 c_26
          refine lv_lload_n hx hb dX3_line_31 rfl (lv_at hl 2 rfl) ?_
          refine lv_lload hx hb dX3_line_32 (lv_at hl 4 rfl) ?_
          refine W.lcmp hx hb dX3_line_34 ?_
          refine lv_if_ne (tgt := 48) hx hb dX3_line_35 (by decide) (fun c_35 => ?_) (fun c_35 => ?_)
          · have c_35 : x0.toInt ≠ x1.toInt := lc_ne c_35
            refine lv_aload_n hx hb dX3_line_48 rfl (lv_at hl 0 rfl) ?_
            refine va_get (D := D) (ci := 3) (v := .ref tl) (C := RX3) (T := TX3) (N := 15) hx hb hTB tb_X3 hown hK.1 hP 0 rfl rfl 0 (by decide) (hTB _ tb_1_15) (fun _ h9 => h9) rfl dX3_line_49 ?_
            refine lv_iload_n hx hb dX3_line_52 rfl (lv_at hl 1 rfl) ?_
            refine lv_iconst (v := 1) hx hb dX3_line_53 (by decide) ?_
            refine va_zast (f := ft) hx hb hK.1 hP hD hS 1 0 rfl rfl (vp_in_iff.mpr ⟨by omega, by omega⟩) dX3_line_54 (fun H locs hP hD hS => ?_)
            have hP : va_P D vwCl [(o, .inr (3, [.ref tl, .ref sx, .ref sy, .ref wx, .ref wy, .ref kx, .ref ky, .int cn, .int ph, .ref fx, .ref fy, .ref dv, .ref sp, .ref p1, .ref p2])), (tl, .inl (cZ, 16, .inl (upd ft k.toNatClampNeg 1))), (sx, .inl (cJ, 16, .inr (.inl fsx))), (sy, .inl (cJ, 16, .inr (.inl fsy))), (wx, .inl (cJ, 16, .inr (.inl fwx))), (wy, .inl (cJ, 16, .inr (.inl fwy)))] H := hP
            have hD : va_D A [(o, .inr (3, [.ref tl, .ref sx, .ref sy, .ref wx, .ref wy, .ref kx, .ref ky, .int cn, .int ph, .ref fx, .ref fy, .ref dv, .ref sp, .ref p1, .ref p2])), (tl, .inl (cZ, 16, .inl (upd ft k.toNatClampNeg 1))), (sx, .inl (cJ, 16, .inr (.inl fsx))), (sy, .inl (cJ, 16, .inr (.inl fsy))), (wx, .inl (cJ, 16, .inr (.inl fwx))), (wy, .inl (cJ, 16, .inr (.inl fwy)))] := hD
            refine lv_aload_n hx hb dX3_line_55 rfl (lv_at hl 0 rfl) ?_
            refine va_get (D := D) (ci := 3) (v := .ref sx) (C := RX3) (T := TX3) (N := 15) hx hb hTB tb_X3 hown hK.1 hP 0 rfl rfl 1 (by decide) (hTB _ tb_1_16) (fun _ h9 => h9) rfl dX3_line_56 ?_
            refine lv_iload_n hx hb dX3_line_59 rfl (lv_at hl 1 rfl) ?_
            refine lv_lload_n hx hb dX3_line_60 rfl (lv_at hl 2 rfl) ?_
            refine va_last (f := fsx) hx hb hK.1 hP hD hS 2 2 rfl rfl (vp_in_iff.mpr ⟨by omega, by omega⟩) dX3_line_61 (fun H locs hP hD hS => ?_)
            have hP : va_P D vwCl [(o, .inr (3, [.ref tl, .ref sx, .ref sy, .ref wx, .ref wy, .ref kx, .ref ky, .int cn, .int ph, .ref fx, .ref fy, .ref dv, .ref sp, .ref p1, .ref p2])), (tl, .inl (cZ, 16, .inl (upd ft k.toNatClampNeg 1))), (sx, .inl (cJ, 16, .inr (.inl (vp_updL fsx k.toNatClampNeg x0)))), (sy, .inl (cJ, 16, .inr (.inl fsy))), (wx, .inl (cJ, 16, .inr (.inl fwx))), (wy, .inl (cJ, 16, .inr (.inl fwy)))] H := hP
            have hD : va_D A [(o, .inr (3, [.ref tl, .ref sx, .ref sy, .ref wx, .ref wy, .ref kx, .ref ky, .int cn, .int ph, .ref fx, .ref fy, .ref dv, .ref sp, .ref p1, .ref p2])), (tl, .inl (cZ, 16, .inl (upd ft k.toNatClampNeg 1))), (sx, .inl (cJ, 16, .inr (.inl (vp_updL fsx k.toNatClampNeg x0)))), (sy, .inl (cJ, 16, .inr (.inl fsy))), (wx, .inl (cJ, 16, .inr (.inl fwx))), (wy, .inl (cJ, 16, .inr (.inl fwy)))] := hD
            refine lv_aload_n hx hb dX3_line_62 rfl (lv_at hl 0 rfl) ?_
            refine va_get (D := D) (ci := 3) (v := .ref sy) (C := RX3) (T := TX3) (N := 15) hx hb hTB tb_X3 hown hK.1 hP 0 rfl rfl 2 (by decide) (hTB _ tb_1_17) (fun _ h9 => h9) rfl dX3_line_63 ?_
            refine lv_iload_n hx hb dX3_line_66 rfl (lv_at hl 1 rfl) ?_
            refine lv_lload hx hb dX3_line_67 (lv_at hl 3 rfl) ?_
            refine va_last (f := fsy) hx hb hK.1 hP hD hS 3 2 rfl rfl (vp_in_iff.mpr ⟨by omega, by omega⟩) dX3_line_69 (fun H locs hP hD hS => ?_)
            have hP : va_P D vwCl [(o, .inr (3, [.ref tl, .ref sx, .ref sy, .ref wx, .ref wy, .ref kx, .ref ky, .int cn, .int ph, .ref fx, .ref fy, .ref dv, .ref sp, .ref p1, .ref p2])), (tl, .inl (cZ, 16, .inl (upd ft k.toNatClampNeg 1))), (sx, .inl (cJ, 16, .inr (.inl (vp_updL fsx k.toNatClampNeg x0)))), (sy, .inl (cJ, 16, .inr (.inl (vp_updL fsy k.toNatClampNeg y0)))), (wx, .inl (cJ, 16, .inr (.inl fwx))), (wy, .inl (cJ, 16, .inr (.inl fwy)))] H := hP
            have hD : va_D A [(o, .inr (3, [.ref tl, .ref sx, .ref sy, .ref wx, .ref wy, .ref kx, .ref ky, .int cn, .int ph, .ref fx, .ref fy, .ref dv, .ref sp, .ref p1, .ref p2])), (tl, .inl (cZ, 16, .inl (upd ft k.toNatClampNeg 1))), (sx, .inl (cJ, 16, .inr (.inl (vp_updL fsx k.toNatClampNeg x0)))), (sy, .inl (cJ, 16, .inr (.inl (vp_updL fsy k.toNatClampNeg y0)))), (wx, .inl (cJ, 16, .inr (.inl fwx))), (wy, .inl (cJ, 16, .inr (.inl fwy)))] := hD
            refine lv_aload_n hx hb dX3_line_70 rfl (lv_at hl 0 rfl) ?_
            refine va_get (D := D) (ci := 3) (v := .ref wx) (C := RX3) (T := TX3) (N := 15) hx hb hTB tb_X3 hown hK.1 hP 0 rfl rfl 3 (by decide) (hTB _ tb_1_18) (fun _ h9 => h9) rfl dX3_line_71 ?_
            refine lv_iload_n hx hb dX3_line_74 rfl (lv_at hl 1 rfl) ?_
            refine lv_lload hx hb dX3_line_75 (lv_at hl 4 rfl) ?_
            refine lv_lload_n hx hb dX3_line_77 rfl (lv_at hl 2 rfl) ?_
            refine lv_lsub hx hb dX3_line_78 ?_
            refine va_last (f := fwx) hx hb hK.1 hP hD hS 4 2 rfl rfl (vp_in_iff.mpr ⟨by omega, by omega⟩) dX3_line_79 (fun H locs hP hD hS => ?_)
            have hP : va_P D vwCl [(o, .inr (3, [.ref tl, .ref sx, .ref sy, .ref wx, .ref wy, .ref kx, .ref ky, .int cn, .int ph, .ref fx, .ref fy, .ref dv, .ref sp, .ref p1, .ref p2])), (tl, .inl (cZ, 16, .inl (upd ft k.toNatClampNeg 1))), (sx, .inl (cJ, 16, .inr (.inl (vp_updL fsx k.toNatClampNeg x0)))), (sy, .inl (cJ, 16, .inr (.inl (vp_updL fsy k.toNatClampNeg y0)))), (wx, .inl (cJ, 16, .inr (.inl (vp_updL fwx k.toNatClampNeg (x1 - x0))))), (wy, .inl (cJ, 16, .inr (.inl fwy)))] H := hP
            have hD : va_D A [(o, .inr (3, [.ref tl, .ref sx, .ref sy, .ref wx, .ref wy, .ref kx, .ref ky, .int cn, .int ph, .ref fx, .ref fy, .ref dv, .ref sp, .ref p1, .ref p2])), (tl, .inl (cZ, 16, .inl (upd ft k.toNatClampNeg 1))), (sx, .inl (cJ, 16, .inr (.inl (vp_updL fsx k.toNatClampNeg x0)))), (sy, .inl (cJ, 16, .inr (.inl (vp_updL fsy k.toNatClampNeg y0)))), (wx, .inl (cJ, 16, .inr (.inl (vp_updL fwx k.toNatClampNeg (x1 - x0))))), (wy, .inl (cJ, 16, .inr (.inl fwy)))] := hD
            refine lv_aload_n hx hb dX3_line_80 rfl (lv_at hl 0 rfl) ?_
            refine va_get (D := D) (ci := 3) (v := .ref wy) (C := RX3) (T := TX3) (N := 15) hx hb hTB tb_X3 hown hK.1 hP 0 rfl rfl 4 (by decide) (hTB _ tb_1_19) (fun _ h9 => h9) rfl dX3_line_81 ?_
            refine lv_iload_n hx hb dX3_line_84 rfl (lv_at hl 1 rfl) ?_
            refine lv_lload hx hb dX3_line_85 (lv_at hl 5 rfl) ?_
            refine lv_lload hx hb dX3_line_87 (lv_at hl 3 rfl) ?_
            refine lv_lsub hx hb dX3_line_89 ?_
            refine va_last (f := fwy) hx hb hK.1 hP hD hS 5 2 rfl rfl (vp_in_iff.mpr ⟨by omega, by omega⟩) dX3_line_90 (fun H locs hP hD hS => ?_)
            have hP : va_P D vwCl [(o, .inr (3, [.ref tl, .ref sx, .ref sy, .ref wx, .ref wy, .ref kx, .ref ky, .int cn, .int ph, .ref fx, .ref fy, .ref dv, .ref sp, .ref p1, .ref p2])), (tl, .inl (cZ, 16, .inl (upd ft k.toNatClampNeg 1))), (sx, .inl (cJ, 16, .inr (.inl (vp_updL fsx k.toNatClampNeg x0)))), (sy, .inl (cJ, 16, .inr (.inl (vp_updL fsy k.toNatClampNeg y0)))), (wx, .inl (cJ, 16, .inr (.inl (vp_updL fwx k.toNatClampNeg (x1 - x0))))), (wy, .inl (cJ, 16, .inr (.inl (vp_updL fwy k.toNatClampNeg (y1 - y0)))))] H := hP
            have hD : va_D A [(o, .inr (3, [.ref tl, .ref sx, .ref sy, .ref wx, .ref wy, .ref kx, .ref ky, .int cn, .int ph, .ref fx, .ref fy, .ref dv, .ref sp, .ref p1, .ref p2])), (tl, .inl (cZ, 16, .inl (upd ft k.toNatClampNeg 1))), (sx, .inl (cJ, 16, .inr (.inl (vp_updL fsx k.toNatClampNeg x0)))), (sy, .inl (cJ, 16, .inr (.inl (vp_updL fsy k.toNatClampNeg y0)))), (wx, .inl (cJ, 16, .inr (.inl (vp_updL fwx k.toNatClampNeg (x1 - x0))))), (wy, .inl (cJ, 16, .inr (.inl (vp_updL fwy k.toNatClampNeg (y1 - y0)))))] := hD
            refine lv_iconst (v := 1) hx hb dX3_line_91 (by decide) ?_
            exact hret hP hD hS rfl (upd ft k.toNatClampNeg 1, vp_updL fsx k.toNatClampNeg x0, vp_updL fsy k.toNatClampNeg y0, vp_updL fwx k.toNatClampNeg (x1 - x0), vp_updL fwy k.toNatClampNeg (y1 - y0)) (⟨bz_t ⟨c_1, c_7, c_16, c_26, by omega⟩, fun _ => rfl, fun q => absurd ⟨c_1, c_7, c_16, c_26, by omega⟩ q⟩) [0, 1, 2, 3, 4, 5] rfl (by decide) dX3_line_92 (Nat.le_of_ble_eq_true rfl) (Nat.le_of_ble_eq_true rfl)
          · have c_35 : x0.toInt = x1.toInt := lc_eq c_35
            refine lv_lload hx hb dX3_line_38 (lv_at hl 3 rfl) ?_
            refine lv_lload hx hb dX3_line_40 (lv_at hl 5 rfl) ?_
            refine W.lcmp hx hb dX3_line_42 ?_
            refine lv_if_ne (tgt := 48) hx hb dX3_line_43 (by decide) (fun c_43 => ?_) (fun c_43 => ?_)
            · have c_43 : y0.toInt ≠ y1.toInt := lc_ne c_43
              refine lv_aload_n hx hb dX3_line_48 rfl (lv_at hl 0 rfl) ?_
              refine va_get (D := D) (ci := 3) (v := .ref tl) (C := RX3) (T := TX3) (N := 15) hx hb hTB tb_X3 hown hK.1 hP 0 rfl rfl 0 (by decide) (hTB _ tb_1_15) (fun _ h9 => h9) rfl dX3_line_49 ?_
              refine lv_iload_n hx hb dX3_line_52 rfl (lv_at hl 1 rfl) ?_
              refine lv_iconst (v := 1) hx hb dX3_line_53 (by decide) ?_
              refine va_zast (f := ft) hx hb hK.1 hP hD hS 1 0 rfl rfl (vp_in_iff.mpr ⟨by omega, by omega⟩) dX3_line_54 (fun H locs hP hD hS => ?_)
              have hP : va_P D vwCl [(o, .inr (3, [.ref tl, .ref sx, .ref sy, .ref wx, .ref wy, .ref kx, .ref ky, .int cn, .int ph, .ref fx, .ref fy, .ref dv, .ref sp, .ref p1, .ref p2])), (tl, .inl (cZ, 16, .inl (upd ft k.toNatClampNeg 1))), (sx, .inl (cJ, 16, .inr (.inl fsx))), (sy, .inl (cJ, 16, .inr (.inl fsy))), (wx, .inl (cJ, 16, .inr (.inl fwx))), (wy, .inl (cJ, 16, .inr (.inl fwy)))] H := hP
              have hD : va_D A [(o, .inr (3, [.ref tl, .ref sx, .ref sy, .ref wx, .ref wy, .ref kx, .ref ky, .int cn, .int ph, .ref fx, .ref fy, .ref dv, .ref sp, .ref p1, .ref p2])), (tl, .inl (cZ, 16, .inl (upd ft k.toNatClampNeg 1))), (sx, .inl (cJ, 16, .inr (.inl fsx))), (sy, .inl (cJ, 16, .inr (.inl fsy))), (wx, .inl (cJ, 16, .inr (.inl fwx))), (wy, .inl (cJ, 16, .inr (.inl fwy)))] := hD
              refine lv_aload_n hx hb dX3_line_55 rfl (lv_at hl 0 rfl) ?_
              refine va_get (D := D) (ci := 3) (v := .ref sx) (C := RX3) (T := TX3) (N := 15) hx hb hTB tb_X3 hown hK.1 hP 0 rfl rfl 1 (by decide) (hTB _ tb_1_16) (fun _ h9 => h9) rfl dX3_line_56 ?_
              refine lv_iload_n hx hb dX3_line_59 rfl (lv_at hl 1 rfl) ?_
              refine lv_lload_n hx hb dX3_line_60 rfl (lv_at hl 2 rfl) ?_
              refine va_last (f := fsx) hx hb hK.1 hP hD hS 2 2 rfl rfl (vp_in_iff.mpr ⟨by omega, by omega⟩) dX3_line_61 (fun H locs hP hD hS => ?_)
              have hP : va_P D vwCl [(o, .inr (3, [.ref tl, .ref sx, .ref sy, .ref wx, .ref wy, .ref kx, .ref ky, .int cn, .int ph, .ref fx, .ref fy, .ref dv, .ref sp, .ref p1, .ref p2])), (tl, .inl (cZ, 16, .inl (upd ft k.toNatClampNeg 1))), (sx, .inl (cJ, 16, .inr (.inl (vp_updL fsx k.toNatClampNeg x0)))), (sy, .inl (cJ, 16, .inr (.inl fsy))), (wx, .inl (cJ, 16, .inr (.inl fwx))), (wy, .inl (cJ, 16, .inr (.inl fwy)))] H := hP
              have hD : va_D A [(o, .inr (3, [.ref tl, .ref sx, .ref sy, .ref wx, .ref wy, .ref kx, .ref ky, .int cn, .int ph, .ref fx, .ref fy, .ref dv, .ref sp, .ref p1, .ref p2])), (tl, .inl (cZ, 16, .inl (upd ft k.toNatClampNeg 1))), (sx, .inl (cJ, 16, .inr (.inl (vp_updL fsx k.toNatClampNeg x0)))), (sy, .inl (cJ, 16, .inr (.inl fsy))), (wx, .inl (cJ, 16, .inr (.inl fwx))), (wy, .inl (cJ, 16, .inr (.inl fwy)))] := hD
              refine lv_aload_n hx hb dX3_line_62 rfl (lv_at hl 0 rfl) ?_
              refine va_get (D := D) (ci := 3) (v := .ref sy) (C := RX3) (T := TX3) (N := 15) hx hb hTB tb_X3 hown hK.1 hP 0 rfl rfl 2 (by decide) (hTB _ tb_1_17) (fun _ h9 => h9) rfl dX3_line_63 ?_
              refine lv_iload_n hx hb dX3_line_66 rfl (lv_at hl 1 rfl) ?_
              refine lv_lload hx hb dX3_line_67 (lv_at hl 3 rfl) ?_
              refine va_last (f := fsy) hx hb hK.1 hP hD hS 3 2 rfl rfl (vp_in_iff.mpr ⟨by omega, by omega⟩) dX3_line_69 (fun H locs hP hD hS => ?_)
              have hP : va_P D vwCl [(o, .inr (3, [.ref tl, .ref sx, .ref sy, .ref wx, .ref wy, .ref kx, .ref ky, .int cn, .int ph, .ref fx, .ref fy, .ref dv, .ref sp, .ref p1, .ref p2])), (tl, .inl (cZ, 16, .inl (upd ft k.toNatClampNeg 1))), (sx, .inl (cJ, 16, .inr (.inl (vp_updL fsx k.toNatClampNeg x0)))), (sy, .inl (cJ, 16, .inr (.inl (vp_updL fsy k.toNatClampNeg y0)))), (wx, .inl (cJ, 16, .inr (.inl fwx))), (wy, .inl (cJ, 16, .inr (.inl fwy)))] H := hP
              have hD : va_D A [(o, .inr (3, [.ref tl, .ref sx, .ref sy, .ref wx, .ref wy, .ref kx, .ref ky, .int cn, .int ph, .ref fx, .ref fy, .ref dv, .ref sp, .ref p1, .ref p2])), (tl, .inl (cZ, 16, .inl (upd ft k.toNatClampNeg 1))), (sx, .inl (cJ, 16, .inr (.inl (vp_updL fsx k.toNatClampNeg x0)))), (sy, .inl (cJ, 16, .inr (.inl (vp_updL fsy k.toNatClampNeg y0)))), (wx, .inl (cJ, 16, .inr (.inl fwx))), (wy, .inl (cJ, 16, .inr (.inl fwy)))] := hD
              refine lv_aload_n hx hb dX3_line_70 rfl (lv_at hl 0 rfl) ?_
              refine va_get (D := D) (ci := 3) (v := .ref wx) (C := RX3) (T := TX3) (N := 15) hx hb hTB tb_X3 hown hK.1 hP 0 rfl rfl 3 (by decide) (hTB _ tb_1_18) (fun _ h9 => h9) rfl dX3_line_71 ?_
              refine lv_iload_n hx hb dX3_line_74 rfl (lv_at hl 1 rfl) ?_
              refine lv_lload hx hb dX3_line_75 (lv_at hl 4 rfl) ?_
              refine lv_lload_n hx hb dX3_line_77 rfl (lv_at hl 2 rfl) ?_
              refine lv_lsub hx hb dX3_line_78 ?_
              refine va_last (f := fwx) hx hb hK.1 hP hD hS 4 2 rfl rfl (vp_in_iff.mpr ⟨by omega, by omega⟩) dX3_line_79 (fun H locs hP hD hS => ?_)
              have hP : va_P D vwCl [(o, .inr (3, [.ref tl, .ref sx, .ref sy, .ref wx, .ref wy, .ref kx, .ref ky, .int cn, .int ph, .ref fx, .ref fy, .ref dv, .ref sp, .ref p1, .ref p2])), (tl, .inl (cZ, 16, .inl (upd ft k.toNatClampNeg 1))), (sx, .inl (cJ, 16, .inr (.inl (vp_updL fsx k.toNatClampNeg x0)))), (sy, .inl (cJ, 16, .inr (.inl (vp_updL fsy k.toNatClampNeg y0)))), (wx, .inl (cJ, 16, .inr (.inl (vp_updL fwx k.toNatClampNeg (x1 - x0))))), (wy, .inl (cJ, 16, .inr (.inl fwy)))] H := hP
              have hD : va_D A [(o, .inr (3, [.ref tl, .ref sx, .ref sy, .ref wx, .ref wy, .ref kx, .ref ky, .int cn, .int ph, .ref fx, .ref fy, .ref dv, .ref sp, .ref p1, .ref p2])), (tl, .inl (cZ, 16, .inl (upd ft k.toNatClampNeg 1))), (sx, .inl (cJ, 16, .inr (.inl (vp_updL fsx k.toNatClampNeg x0)))), (sy, .inl (cJ, 16, .inr (.inl (vp_updL fsy k.toNatClampNeg y0)))), (wx, .inl (cJ, 16, .inr (.inl (vp_updL fwx k.toNatClampNeg (x1 - x0))))), (wy, .inl (cJ, 16, .inr (.inl fwy)))] := hD
              refine lv_aload_n hx hb dX3_line_80 rfl (lv_at hl 0 rfl) ?_
              refine va_get (D := D) (ci := 3) (v := .ref wy) (C := RX3) (T := TX3) (N := 15) hx hb hTB tb_X3 hown hK.1 hP 0 rfl rfl 4 (by decide) (hTB _ tb_1_19) (fun _ h9 => h9) rfl dX3_line_81 ?_
              refine lv_iload_n hx hb dX3_line_84 rfl (lv_at hl 1 rfl) ?_
              refine lv_lload hx hb dX3_line_85 (lv_at hl 5 rfl) ?_
              refine lv_lload hx hb dX3_line_87 (lv_at hl 3 rfl) ?_
              refine lv_lsub hx hb dX3_line_89 ?_
              refine va_last (f := fwy) hx hb hK.1 hP hD hS 5 2 rfl rfl (vp_in_iff.mpr ⟨by omega, by omega⟩) dX3_line_90 (fun H locs hP hD hS => ?_)
              have hP : va_P D vwCl [(o, .inr (3, [.ref tl, .ref sx, .ref sy, .ref wx, .ref wy, .ref kx, .ref ky, .int cn, .int ph, .ref fx, .ref fy, .ref dv, .ref sp, .ref p1, .ref p2])), (tl, .inl (cZ, 16, .inl (upd ft k.toNatClampNeg 1))), (sx, .inl (cJ, 16, .inr (.inl (vp_updL fsx k.toNatClampNeg x0)))), (sy, .inl (cJ, 16, .inr (.inl (vp_updL fsy k.toNatClampNeg y0)))), (wx, .inl (cJ, 16, .inr (.inl (vp_updL fwx k.toNatClampNeg (x1 - x0))))), (wy, .inl (cJ, 16, .inr (.inl (vp_updL fwy k.toNatClampNeg (y1 - y0)))))] H := hP
              have hD : va_D A [(o, .inr (3, [.ref tl, .ref sx, .ref sy, .ref wx, .ref wy, .ref kx, .ref ky, .int cn, .int ph, .ref fx, .ref fy, .ref dv, .ref sp, .ref p1, .ref p2])), (tl, .inl (cZ, 16, .inl (upd ft k.toNatClampNeg 1))), (sx, .inl (cJ, 16, .inr (.inl (vp_updL fsx k.toNatClampNeg x0)))), (sy, .inl (cJ, 16, .inr (.inl (vp_updL fsy k.toNatClampNeg y0)))), (wx, .inl (cJ, 16, .inr (.inl (vp_updL fwx k.toNatClampNeg (x1 - x0))))), (wy, .inl (cJ, 16, .inr (.inl (vp_updL fwy k.toNatClampNeg (y1 - y0)))))] := hD
              refine lv_iconst (v := 1) hx hb dX3_line_91 (by decide) ?_
              exact hret hP hD hS rfl (upd ft k.toNatClampNeg 1, vp_updL fsx k.toNatClampNeg x0, vp_updL fsy k.toNatClampNeg y0, vp_updL fwx k.toNatClampNeg (x1 - x0), vp_updL fwy k.toNatClampNeg (y1 - y0)) (⟨bz_t ⟨c_1, c_7, c_16, c_26, by omega⟩, fun _ => rfl, fun q => absurd ⟨c_1, c_7, c_16, c_26, by omega⟩ q⟩) [0, 1, 2, 3, 4, 5] rfl (by decide) dX3_line_92 (Nat.le_of_ble_eq_true rfl) (Nat.le_of_ble_eq_true rfl)
            · have c_43 : y0.toInt = y1.toInt := lc_eq c_43
              refine lv_iconst (v := 0) hx hb dX3_line_46 (by decide) ?_
              exact hret hP hD hS rfl (ft, fsx, fsy, fwx, fwy) (⟨bz_f (fun q => q.2.2.2.2 ⟨c_35, c_43⟩), fun q => absurd q (fun q => q.2.2.2.2 ⟨c_35, c_43⟩), fun _ => rfl⟩) [0, 1, 2, 3, 4, 5] rfl (by decide) dX3_line_47 (Nat.le_of_ble_eq_true rfl) (Nat.le_of_ble_eq_true rfl)
        · have c_26 := bz_0 c_26
          refine lv_iconst (v := 0) hx hb dX3_line_29 (by decide) ?_
          exact hret hP hD hS rfl (ft, fsx, fsy, fwx, fwy) (⟨bz_f (fun q => c_26 q.2.2.2.1), fun q => absurd q (fun q => c_26 q.2.2.2.1), fun _ => rfl⟩) [0, 1, 2, 3, 4, 5] rfl (by decide) dX3_line_30 (Nat.le_of_ble_eq_true rfl) (Nat.le_of_ble_eq_true rfl)

set_option maxHeartbeats 4000000 in
set_option maxRecDepth 100000 in
theorem c_X3_corner (l : Launch) (D : va_G) (cZ cI cJ : ClassId) (o tl sx sy wx wy kx ky fx fy dv sp p1 p2 : Nat) (ph : Int32) (n : Nat) (fkx fky : Nat → Int64) (x y : Int64) (hn9 : n ≤ 64) : Ci l D cZ cI cJ yX3_corner cX3_corner 5 (some .boolean) { frames := 1, cells := 0, slots := 0, locals := 23 } [.ref o, .long x, .long y] [(o, .inr (3, [.ref tl, .ref sx, .ref sy, .ref wx, .ref wy, .ref kx, .ref ky, .int (nI n), .int ph, .ref fx, .ref fy, .ref dv, .ref sp, .ref p1, .ref p2])), (kx, .inl (cJ, 64, .inr (.inl fkx))), (ky, .inl (cJ, 64, .inr (.inl fky)))] (S := Nat × (Nat → Int64) × (Nat → Int64)) (fun z u => z = bz (n < 64 ∧ ogr x y) ∧ (n < 64 ∧ ogr x y → u = (n + 1, vp_updL fkx n x, vp_updL fky n y)) ∧ (¬ (n < 64 ∧ ogr x y) → u = (n, fkx, fky))) (fun u => [(o, .inr (3, [.ref tl, .ref sx, .ref sy, .ref wx, .ref wy, .ref kx, .ref ky, .int (nI u.1), .int ph, .ref fx, .ref fy, .ref dv, .ref sp, .ref p1, .ref p2])), (kx, .inl (cJ, 64, .inr (.inl u.2.1))), (ky, .inl (cJ, 64, .inr (.inl u.2.2)))]) := by
  refine Ci.of (by decide) ?_
  intro p e s m args below meth c A Q hB hret hP hD hA
  obtain ⟨hx, hb, hr, hlocks, hml, hown, hnm, hTB, hK⟩ := hB
  have hown : s.vm.findClass RX3 = some m.cls := hown
  have hS : va_S A s.heap s.heap [] := va_S.rf
  have hl := lv_entry ([.ref o, .long x, .long y]) (n := 5) (Nat.le_of_ble_eq_true rfl)
  rw [lg_entry_eq]
  generalize (lg_sl ([.ref o, .long x, .long y]) ++ List.replicate (5 - (lg_sl ([.ref o, .long x, .long y])).length) Slot.unset).toArray = ls at hl ⊢
  have hl : lv_has ls 5 [(0, .ref o), (1, .long x), (3, .long y)] := hl
  refine lv_aload_n hx hb dX3_corner_0 rfl (lv_at hl 0 rfl) ?_
  refine va_get (D := D) (ci := 3) (v := .int (nI n)) (C := RX3) (T := TX3) (N := 15) hx hb hTB tb_X3 hown hK.1 hP 0 rfl rfl 7 (by decide) (hTB _ tb_2_13) (fun _ h9 => h9) rfl dX3_corner_1 ?_
  refine lv_bipush (v := 64) hx hb dX3_corner_4 (by decide) ?_
  refine lv_icmp_ge (tgt := 17) hx hb dX3_corner_6 (by decide) (fun c_6 => ?_) (fun c_6 => ?_)
  · refine lv_iconst (v := 0) hx hb dX3_corner_17 (by decide) ?_
    exact hret hP hD hS rfl (n, fkx, fky) (⟨bz_f (fun q => absurd q.1 (by have := (nI_leI (a := 64) (b := n) (by omega) (by omega)).mp c_6; omega)), fun q => absurd q (fun q => absurd q.1 (by have := (nI_leI (a := 64) (b := n) (by omega) (by omega)).mp c_6; omega)), fun _ => rfl⟩) [0, 1, 2] rfl (by decide) dX3_corner_18 (Nat.le_of_ble_eq_true rfl) (Nat.le_of_ble_eq_true rfl)
  · have hn : n < 64 := Nat.not_le.mp (fun q => c_6 ((nI_leI (a := 64) (b := n) (by omega) (by omega)).mpr q))
    refine lv_lload_n hx hb dX3_corner_9 rfl (lv_at hl 1 rfl) ?_
    refine lv_lload_n hx hb dX3_corner_10 rfl (lv_at hl 2 rfl) ?_
    refine vp_callSi (va_runS (As := [.long x, .long y]) (rest := []) ⟨hx, hb, hml, hown, hTB⟩ (c_X3_isOnGrid l D cZ cI cJ x y) (cw_S hTB tb_4_6 tb_1_2 tb_4_4 tb_4_5 nd_X3_isOnGrid rfl rfl ⟨Nat.le_of_ble_eq_true rfl, Nat.le_of_ble_eq_true rfl⟩) (prr_S hK hP [] rfl) rfl rfl hl.1 rfl (lv_room (Nat.le_of_ble_eq_true rfl)) dX3_corner_11 ⟨Nat.le_of_ble_eq_true rfl, Nat.le_of_ble_eq_true rfl⟩).run (fun r11 hc11 => ?_)
    subst hc11
    refine lv_if_ne (tgt := 19) hx hb dX3_corner_14 (by decide) (fun c_14 => ?_) (fun c_14 => ?_)
    · have c_14 := bz_1 c_14
      refine lv_aload_n hx hb dX3_corner_19 rfl (lv_at hl 0 rfl) ?_
      refine va_get (D := D) (ci := 3) (v := .ref kx) (C := RX3) (T := TX3) (N := 15) hx hb hTB tb_X3 hown hK.1 hP 0 rfl rfl 5 (by decide) (hTB _ tb_1_20) (fun _ h9 => h9) rfl dX3_corner_20 ?_
      refine lv_aload_n hx hb dX3_corner_23 rfl (lv_at hl 0 rfl) ?_
      refine va_get (D := D) (ci := 3) (v := .int (nI n)) (C := RX3) (T := TX3) (N := 15) hx hb hTB tb_X3 hown hK.1 hP 0 rfl rfl 7 (by decide) (hTB _ tb_2_13) (fun _ h9 => h9) rfl dX3_corner_24 ?_
      refine lv_lload_n hx hb dX3_corner_27 rfl (lv_at hl 1 rfl) ?_
      refine va_last (f := fkx) hx hb hK.1 hP hD hS 1 2 rfl rfl (vp_in_nI hn (by decide)) dX3_corner_28 (fun H locs hP hD hS => ?_)
      rw [show (nI n).toNatClampNeg = n from nI_clamp (by omega)] at hP hD
      have hP : va_P D vwCl [(o, .inr (3, [.ref tl, .ref sx, .ref sy, .ref wx, .ref wy, .ref kx, .ref ky, .int (nI n), .int ph, .ref fx, .ref fy, .ref dv, .ref sp, .ref p1, .ref p2])), (kx, .inl (cJ, 64, .inr (.inl (vp_updL fkx n x)))), (ky, .inl (cJ, 64, .inr (.inl fky)))] H := hP
      have hD : va_D A [(o, .inr (3, [.ref tl, .ref sx, .ref sy, .ref wx, .ref wy, .ref kx, .ref ky, .int (nI n), .int ph, .ref fx, .ref fy, .ref dv, .ref sp, .ref p1, .ref p2])), (kx, .inl (cJ, 64, .inr (.inl (vp_updL fkx n x)))), (ky, .inl (cJ, 64, .inr (.inl fky)))] := hD
      refine lv_aload_n hx hb dX3_corner_29 rfl (lv_at hl 0 rfl) ?_
      refine va_get (D := D) (ci := 3) (v := .ref ky) (C := RX3) (T := TX3) (N := 15) hx hb hTB tb_X3 hown hK.1 hP 0 rfl rfl 6 (by decide) (hTB _ tb_1_21) (fun _ h9 => h9) rfl dX3_corner_30 ?_
      refine lv_aload_n hx hb dX3_corner_33 rfl (lv_at hl 0 rfl) ?_
      refine va_get (D := D) (ci := 3) (v := .int (nI n)) (C := RX3) (T := TX3) (N := 15) hx hb hTB tb_X3 hown hK.1 hP 0 rfl rfl 7 (by decide) (hTB _ tb_2_13) (fun _ h9 => h9) rfl dX3_corner_34 ?_
      refine lv_lload_n hx hb dX3_corner_37 rfl (lv_at hl 2 rfl) ?_
      refine va_last (f := fky) hx hb hK.1 hP hD hS 2 2 rfl rfl (vp_in_nI hn (by decide)) dX3_corner_38 (fun H locs hP hD hS => ?_)
      rw [show (nI n).toNatClampNeg = n from nI_clamp (by omega)] at hP hD
      have hP : va_P D vwCl [(o, .inr (3, [.ref tl, .ref sx, .ref sy, .ref wx, .ref wy, .ref kx, .ref ky, .int (nI n), .int ph, .ref fx, .ref fy, .ref dv, .ref sp, .ref p1, .ref p2])), (kx, .inl (cJ, 64, .inr (.inl (vp_updL fkx n x)))), (ky, .inl (cJ, 64, .inr (.inl (vp_updL fky n y))))] H := hP
      have hD : va_D A [(o, .inr (3, [.ref tl, .ref sx, .ref sy, .ref wx, .ref wy, .ref kx, .ref ky, .int (nI n), .int ph, .ref fx, .ref fy, .ref dv, .ref sp, .ref p1, .ref p2])), (kx, .inl (cJ, 64, .inr (.inl (vp_updL fkx n x)))), (ky, .inl (cJ, 64, .inr (.inl (vp_updL fky n y))))] := hD
      refine lv_aload_n hx hb dX3_corner_39 rfl (lv_at hl 0 rfl) ?_
      refine lv_dup hx hb dX3_corner_40 rfl ?_
      refine va_get (D := D) (ci := 3) (v := .int (nI n)) (C := RX3) (T := TX3) (N := 15) hx hb hTB tb_X3 hown hK.1 hP 0 rfl rfl 7 (by decide) (hTB _ tb_2_13) (fun _ h9 => h9) rfl dX3_corner_41 ?_
      refine lv_iconst (v := 1) hx hb dX3_corner_44 (by decide) ?_
      refine lv_iadd hx hb dX3_corner_45 ?_
      rw [nI_1]
      refine va_put (D := D) (ci := 3) (v := .int (nI (n + 1))) (ty := .int) (C := RX3) (T := TX3) (N := 15) hx hb hTB tb_X3 tyX3 tyX3_ok nmX3 hown hK.1 hP hD hS 0 rfl rfl 7 (by decide) (hTB _ tb_2_13) (fun _ h9 => h9) rfl (by decide +kernel) rfl rfl (Nat.le_of_ble_eq_true rfl) dX3_corner_46 (fun H locs hP hD hS => ?_)
      have hP : va_P D vwCl [(o, .inr (3, [.ref tl, .ref sx, .ref sy, .ref wx, .ref wy, .ref kx, .ref ky, .int (nI (n + 1)), .int ph, .ref fx, .ref fy, .ref dv, .ref sp, .ref p1, .ref p2])), (kx, .inl (cJ, 64, .inr (.inl (vp_updL fkx n x)))), (ky, .inl (cJ, 64, .inr (.inl (vp_updL fky n y))))] H := hP
      have hD : va_D A [(o, .inr (3, [.ref tl, .ref sx, .ref sy, .ref wx, .ref wy, .ref kx, .ref ky, .int (nI (n + 1)), .int ph, .ref fx, .ref fy, .ref dv, .ref sp, .ref p1, .ref p2])), (kx, .inl (cJ, 64, .inr (.inl (vp_updL fkx n x)))), (ky, .inl (cJ, 64, .inr (.inl (vp_updL fky n y))))] := hD
      refine lv_iconst (v := 1) hx hb dX3_corner_49 (by decide) ?_
      exact hret hP hD hS rfl (n + 1, vp_updL fkx n x, vp_updL fky n y) (⟨bz_t ⟨hn, c_14⟩, fun _ => rfl, fun q => absurd ⟨hn, c_14⟩ q⟩) [0, 1, 2] rfl (by decide) dX3_corner_50 (Nat.le_of_ble_eq_true rfl) (Nat.le_of_ble_eq_true rfl)
    · have c_14 := bz_0 c_14
      refine lv_iconst (v := 0) hx hb dX3_corner_17 (by decide) ?_
      exact hret hP hD hS rfl (n, fkx, fky) (⟨bz_f (fun q => c_14 q.2), fun q => absurd q (fun q => c_14 q.2), fun _ => rfl⟩) [0, 1, 2] rfl (by decide) dX3_corner_18 (Nat.le_of_ble_eq_true rfl) (Nat.le_of_ble_eq_true rfl)

set_option maxHeartbeats 4000000 in
set_option maxRecDepth 100000 in
theorem c_X3_clear (l : Launch) (D : va_G) (cZ cI cJ : ClassId) (o tl sx sy wx wy kx ky fx fy dv sp p1 p2 : Nat) (cn ph : Int32) (ft : Nat → Int32) : Cv l D cZ cI cJ yX3_clear cX3_clear 2 { frames := 0, cells := 0, slots := 0, locals := 0 } [.ref o] [(o, .inr (3, [.ref tl, .ref sx, .ref sy, .ref wx, .ref wy, .ref kx, .ref ky, .int cn, .int ph, .ref fx, .ref fy, .ref dv, .ref sp, .ref p1, .ref p2])), (tl, .inl (cZ, 16, .inl ft))] (S := Nat → Int32) (fun u => ∀ j, j < 16 → u j = 0) (fun u => [(o, .inr (3, [.ref tl, .ref sx, .ref sy, .ref wx, .ref wy, .ref kx, .ref ky, .int 0, .int 0, .ref fx, .ref fy, .ref dv, .ref sp, .ref p1, .ref p2])), (tl, .inl (cZ, 16, .inl u))]) := by
  refine Cv.of (by decide) ?_
  intro p e s m args below meth c A Q hB hret hP hD hA
  obtain ⟨hx, hb, hr, hlocks, hml, hown, hnm, hTB, hK⟩ := hB
  have hown : s.vm.findClass RX3 = some m.cls := hown
  have hS : va_S A s.heap s.heap [] := va_S.rf
  have hl := lv_entry ([.ref o]) (n := 2) (Nat.le_of_ble_eq_true rfl)
  rw [lg_entry_eq]
  generalize (lg_sl ([.ref o]) ++ List.replicate (2 - (lg_sl ([.ref o])).length) Slot.unset).toArray = ls at hl ⊢
  have hl : lv_has ls 2 [(0, .ref o)] := hl
  refine lv_iconst (v := 0) hx hb dX3_clear_0 (by decide) ?_
  refine lv_istore_n (lv' := [(1, .int 0), (0, .ref o)]) hx hb dX3_clear_1 rfl hl (by decide) rfl (fun ls hl => ?_)
  have L2 : ∀ (n2 : Nat) (k : Nat) (ft2 : Nat → Int32), (16 < k + n2 ∧ k ≤ 16) → (∀ j, j < k → ft2 j = 0) → ∀ (H : Heap) (locs : List Loc), va_P D vwCl [(o, .inr (3, [.ref tl, .ref sx, .ref sy, .ref wx, .ref wy, .ref kx, .ref ky, .int cn, .int ph, .ref fx, .ref fy, .ref dv, .ref sp, .ref p1, .ref p2])), (tl, .inl (cZ, 16, .inl ft2))] H → va_D A [(o, .inr (3, [.ref tl, .ref sx, .ref sy, .ref wx, .ref wy, .ref kx, .ref ky, .int cn, .int ph, .ref fx, .ref fy, .ref dv, .ref sp, .ref p1, .ref p2])), (tl, .inl (cZ, 16, .inl ft2))] → va_S A s.heap H locs → ∀ (ls : Array Slot), lv_has ls 2 [(0, .ref o), (1, .int (nI k))] → W p l e { frames := 0, cells := 0, slots := 0, locals := 0 } s m args below meth c H locs 0 0 Q (F0 m 2 ls []) := by
    intro n2
    induction n2 with
    | zero =>
      intro k ft2 g1 g2
      exfalso; omega
    | succ n2 ih2 =>
      intro k ft2 g1 g2 H locs hP hD hS ls hl
      refine lv_iload_n hx hb dX3_clear_2 rfl (lv_at hl 1 rfl) ?_
      refine lv_bipush (v := 16) hx hb dX3_clear_3 (by decide) ?_
      refine lv_icmp_ge (tgt := 21) hx hb dX3_clear_5 (by decide) (fun c_5 => ?_) (fun c_5 => ?_)
      · refine lv_aload_n hx hb dX3_clear_21 rfl (lv_at hl 0 rfl) ?_
        refine lv_iconst (v := 0) hx hb dX3_clear_22 (by decide) ?_
        refine va_put (D := D) (ci := 3) (v := .int 0) (ty := .int) (C := RX3) (T := TX3) (N := 15) hx hb hTB tb_X3 tyX3 tyX3_ok nmX3 hown hK.1 hP hD hS 0 rfl rfl 7 (by decide) (hTB _ tb_2_13) (fun _ h9 => h9) rfl (by decide +kernel) rfl rfl (Nat.le_of_ble_eq_true rfl) dX3_clear_23 (fun H locs hP hD hS => ?_)
        have hP : va_P D vwCl [(o, .inr (3, [.ref tl, .ref sx, .ref sy, .ref wx, .ref wy, .ref kx, .ref ky, .int 0, .int ph, .ref fx, .ref fy, .ref dv, .ref sp, .ref p1, .ref p2])), (tl, .inl (cZ, 16, .inl ft2))] H := hP
        have hD : va_D A [(o, .inr (3, [.ref tl, .ref sx, .ref sy, .ref wx, .ref wy, .ref kx, .ref ky, .int 0, .int ph, .ref fx, .ref fy, .ref dv, .ref sp, .ref p1, .ref p2])), (tl, .inl (cZ, 16, .inl ft2))] := hD
        refine lv_aload_n hx hb dX3_clear_26 rfl (lv_at hl 0 rfl) ?_
        refine lv_iconst (v := 0) hx hb dX3_clear_27 (by decide) ?_
        refine va_put (D := D) (ci := 3) (v := .int 0) (ty := .boolean) (C := RX3) (T := TX3) (N := 15) hx hb hTB tb_X3 tyX3 tyX3_ok nmX3 hown hK.1 hP hD hS 0 rfl rfl 8 (by decide) (hTB _ tb_2_14) (fun _ h9 => h9) rfl (by decide +kernel) rfl rfl (Nat.le_of_ble_eq_true rfl) dX3_clear_28 (fun H locs hP hD hS => ?_)
        have hP : va_P D vwCl [(o, .inr (3, [.ref tl, .ref sx, .ref sy, .ref wx, .ref wy, .ref kx, .ref ky, .int 0, .int 0, .ref fx, .ref fy, .ref dv, .ref sp, .ref p1, .ref p2])), (tl, .inl (cZ, 16, .inl ft2))] H := hP
        have hD : va_D A [(o, .inr (3, [.ref tl, .ref sx, .ref sy, .ref wx, .ref wy, .ref kx, .ref ky, .int 0, .int 0, .ref fx, .ref fy, .ref dv, .ref sp, .ref p1, .ref p2])), (tl, .inl (cZ, 16, .inl ft2))] := hD
        exact hret hP hD hS ft2 (by have := (nI_leI (a := 16) (b := k) (by omega) (by omega)).mp c_5; exact fun j hj => g2 j (by omega)) [0, 1] rfl (by decide) dX3_clear_31 (Nat.le_of_ble_eq_true rfl) (Nat.le_of_ble_eq_true rfl)
      · have hk : k < 16 := Nat.not_le.mp (fun q => c_5 ((nI_leI (a := 16) (b := k) (by omega) (by omega)).mpr q))
        refine lv_aload_n hx hb dX3_clear_8 rfl (lv_at hl 0 rfl) ?_
        refine va_get (D := D) (ci := 3) (v := .ref tl) (C := RX3) (T := TX3) (N := 15) hx hb hTB tb_X3 hown hK.1 hP 0 rfl rfl 0 (by decide) (hTB _ tb_1_15) (fun _ h9 => h9) rfl dX3_clear_9 ?_
        refine lv_iload_n hx hb dX3_clear_12 rfl (lv_at hl 1 rfl) ?_
        refine lv_iconst (v := 0) hx hb dX3_clear_13 (by decide) ?_
        refine va_zast (f := ft2) hx hb hK.1 hP hD hS 1 0 rfl rfl (vp_in_nI hk (by decide)) dX3_clear_14 (fun H locs hP hD hS => ?_)
        rw [show (nI k).toNatClampNeg = k from nI_clamp (by omega)] at hP hD
        have hP : va_P D vwCl [(o, .inr (3, [.ref tl, .ref sx, .ref sy, .ref wx, .ref wy, .ref kx, .ref ky, .int cn, .int ph, .ref fx, .ref fy, .ref dv, .ref sp, .ref p1, .ref p2])), (tl, .inl (cZ, 16, .inl (upd ft2 k 0)))] H := hP
        have hD : va_D A [(o, .inr (3, [.ref tl, .ref sx, .ref sy, .ref wx, .ref wy, .ref kx, .ref ky, .int cn, .int ph, .ref fx, .ref fy, .ref dv, .ref sp, .ref p1, .ref p2])), (tl, .inl (cZ, 16, .inl (upd ft2 k 0)))] := hD
        obtain ⟨i1_1, ei1_1⟩ : ∃ y : Int32, y = (nI k) + 1 := ⟨_, rfl⟩
        refine lv_iinc (v := i1_1) (lv' := [(1, .int i1_1), (0, .ref o)]) hx hb dX3_clear_15 hl (k := 1) rfl (by rw [ei1_1]; rfl) (by decide) rfl (fun ls hl => ?_)
        refine lv_goto (tgt := 2) hx hb dX3_clear_18 (by decide) ?_
        have q9 : i1_1 = nI (k + 1) := by rw [ei1_1]; exact nI_1 k
        subst q9
        refine ih2 (k + 1) (upd ft2 k 0) ?_ ?_ _ _ hP hD hS _ (lv_sub hl [1, 0] rfl)
        · omega
        · intro j hj
          by_cases h : j = k
          · subst h; exact pk_us
          · rw [pk_un h]; exact g2 j (by omega)
  refine L2 17 0 ft ?_ ?_ _ _ hP hD hS _ (lv_sub hl [1, 0] rfl)
  · omega
  · intro j hj; omega

set_option maxHeartbeats 4000000 in
set_option maxRecDepth 100000 in
theorem c_X3_count (l : Launch) (D : va_G) (cZ cI cJ : ClassId) (o tl sx sy wx wy kx ky fx fy dv sp p1 p2 : Nat) (cn ph : Int32) (ft : Nat → Int32) (what : Int32) : Ri l D cZ cI cJ yX3_count cX3_count 2 (some .int) { frames := 1, cells := 0, slots := 0, locals := 22 } [.ref o, .int what] [(o, .inr (3, [.ref tl, .ref sx, .ref sy, .ref wx, .ref wy, .ref kx, .ref ky, .int cn, .int ph, .ref fx, .ref fy, .ref dv, .ref sp, .ref p1, .ref p2])), (tl, .inl (cZ, 16, .inl ft))] (fun r => r = if what = 0 then nI (cnt ft 16) else if what = 1 then cn else if what = 2 then (if ph = 0 then 0 else 1) else -1) := by
  refine Ri.of (by decide) ?_
  intro p e s m args below meth c Q hB hret hP
  obtain ⟨hx, hb, hr, hlocks, hml, hown, hnm, hTB, hK⟩ := hB
  have hown : s.vm.findClass RX3 = some m.cls := hown
  have hl := lv_entry ([.ref o, .int what]) (n := 2) (Nat.le_of_ble_eq_true rfl)
  rw [lg_entry_eq]
  generalize (lg_sl ([.ref o, .int what]) ++ List.replicate (2 - (lg_sl ([.ref o, .int what])).length) Slot.unset).toArray = ls at hl ⊢
  have hl : lv_has ls 2 [(0, .ref o), (1, .int what)] := hl
  refine lv_iload_n hx hb dX3_count_0 rfl (lv_at hl 1 rfl) ?_
  rcases sw_2 what with k_1 | k_1 | k_1 | k_1
  · refine lv_tableIn (off := 27) (tgt := 28) hx hb dX3_count_1 (by rw [k_1]; decide) (by rw [k_1]; decide) (by rw [k_1]; rfl) (by decide) ?_
    refine lv_aload_n hx hb dX3_count_28 rfl (lv_at hl 0 rfl) ?_
    refine vp_callSi (va_runV (As := []) (rest := []) ⟨hx, hb, hml, hown, hTB⟩ (c_X3_linesTold l D cZ cI cJ o tl sx sy wx wy kx ky fx fy dv sp p1 p2 cn ph ft) (cw_V hTB tb_23_13 tb_1_2 tb_23_10 tb_23_11 tb_23_12 nd_X3_linesTold rfl rfl ⟨Nat.le_of_ble_eq_true rfl, Nat.le_of_ble_eq_true rfl⟩) (prr_V (q0 := 0) hK hP [0, 1] rfl rfl rfl) rfl rfl hl.1 rfl (lv_room (Nat.le_of_ble_eq_true rfl)) dX3_count_29 ⟨Nat.le_of_ble_eq_true rfl, Nat.le_of_ble_eq_true rfl⟩).run (fun r29 hc29 => ?_)
    subst hc29
    exact hret rfl (by rw [if_pos (i32_of (k := 0) k_1)]) dX3_count_32
  · refine lv_tableIn (off := 32) (tgt := 33) hx hb dX3_count_1 (by rw [k_1]; decide) (by rw [k_1]; decide) (by rw [k_1]; rfl) (by decide) ?_
    refine lv_aload_n hx hb dX3_count_33 rfl (lv_at hl 0 rfl) ?_
    refine va_get (D := D) (ci := 3) (v := .int cn) (C := RX3) (T := TX3) (N := 15) hx hb hTB tb_X3 hown hK.1 hP 0 rfl rfl 7 (by decide) (hTB _ tb_2_13) (fun _ h9 => h9) rfl dX3_count_34 ?_
    exact hret rfl (by rw [if_neg (i32_ne (k := 0) (by rw [k_1]; decide)), if_pos (i32_of (k := 1) k_1)]) dX3_count_37
  · refine lv_tableIn (off := 37) (tgt := 38) hx hb dX3_count_1 (by rw [k_1]; decide) (by rw [k_1]; decide) (by rw [k_1]; rfl) (by decide) ?_
    refine lv_aload_n hx hb dX3_count_38 rfl (lv_at hl 0 rfl) ?_
    refine va_get (D := D) (ci := 3) (v := .int ph) (C := RX3) (T := TX3) (N := 15) hx hb hTB tb_X3 hown hK.1 hP 0 rfl rfl 8 (by decide) (hTB _ tb_2_14) (fun _ h9 => h9) rfl dX3_count_39 ?_
    refine lv_if_eq (tgt := 49) hx hb dX3_count_42 (by decide) (fun c_42 => ?_) (fun c_42 => ?_)
    · refine lv_iconst (v := 0) hx hb dX3_count_49 (by decide) ?_
      exact hret rfl (by rw [if_neg (i32_ne (k := 0) (by rw [k_1]; decide)), if_neg (i32_ne (k := 1) (by rw [k_1]; decide)), if_pos (i32_of (k := 2) k_1), if_pos c_42]) dX3_count_50
    · refine lv_iconst (v := 1) hx hb dX3_count_45 (by decide) ?_
      refine lv_goto (tgt := 50) hx hb dX3_count_46 (by decide) ?_
      exact hret rfl (by rw [if_neg (i32_ne (k := 0) (by rw [k_1]; decide)), if_neg (i32_ne (k := 1) (by rw [k_1]; decide)), if_pos (i32_of (k := 2) k_1), if_neg c_42]) dX3_count_50
  · refine lv_tableOut (tgt := 51) hx hb dX3_count_1 k_1 (by decide) ?_
    refine lv_iconst (v := (-1)) hx hb dX3_count_51 (by decide) ?_
    exact hret rfl (by rw [if_neg (fun q => by rw [q] at k_1; revert k_1; decide), if_neg (fun q => by rw [q] at k_1; revert k_1; decide), if_neg (fun q => by rw [q] at k_1; revert k_1; decide)]) dX3_count_52

set_option maxHeartbeats 4000000 in
set_option maxRecDepth 100000 in
theorem c_X3_at (l : Launch) (D : va_G) (cZ cI cJ : ClassId) (o tl sx sy wx wy kx ky fx fy dv sp p1 p2 : Nat) (cn ph : Int32) (xu xl yu yl : Nat) (uh ul vh vl ah al bh bl : Int64) (q r d lm co : Nat) (qh ql rh rl dh dl mh ml : Int64) (axis : Int32) (hX0 : ph ≠ 0 → 0 < (wv vh vl).natAbs ∧ (wv uh ul).natAbs < 170141183460469231731687303715884105728 ∧ (wv vh vl).natAbs < 85070591730234615865843651857942052864) (hY0 : ph ≠ 0 → 0 < (wv bh bl).natAbs ∧ (wv ah al).natAbs < 170141183460469231731687303715884105728 ∧ (wv bh bl).natAbs < 85070591730234615865843651857942052864) : Cl l D cZ cI cJ yX3_at cX3_at 3 (some .long) { frames := 5, cells := 0, slots := 0, locals := 114 } [.ref o, .int axis] [(o, .inr (3, [.ref tl, .ref sx, .ref sy, .ref wx, .ref wy, .ref kx, .ref ky, .int cn, .int ph, .ref fx, .ref fy, .ref dv, .ref sp, .ref p1, .ref p2])), (fx, .inr (1, [.ref xu, .ref xl])), (fy, .inr (1, [.ref yu, .ref yl])), (xu, .inr (2, [.long uh, .long ul])), (xl, .inr (2, [.long vh, .long vl])), (yu, .inr (2, [.long ah, .long al])), (yl, .inr (2, [.long bh, .long bl])), (dv, .inr (0, [.ref q, .ref r, .ref d, .ref lm, .ref co])), (q, .inr (2, [.long qh, .long ql])), (r, .inr (2, [.long rh, .long rl])), (d, .inr (2, [.long dh, .long dl])), (lm, .inr (2, [.long mh, .long ml]))] (S := (Int64 × Int64) × (Int64 × Int64) × (Int64 × Int64) × (Int64 × Int64)) (fun z u => z = if isa ph axis then (if axis = 0 then rdv 4 (wv uh ul) (wv vh vl) else rdv 4 (wv ah al) (wv bh bl)) else -4611686018427387904) (fun u => [(o, .inr (3, [.ref tl, .ref sx, .ref sy, .ref wx, .ref wy, .ref kx, .ref ky, .int cn, .int ph, .ref fx, .ref fy, .ref dv, .ref sp, .ref p1, .ref p2])), (fx, .inr (1, [.ref xu, .ref xl])), (fy, .inr (1, [.ref yu, .ref yl])), (xu, .inr (2, [.long uh, .long ul])), (xl, .inr (2, [.long vh, .long vl])), (yu, .inr (2, [.long ah, .long al])), (yl, .inr (2, [.long bh, .long bl])), (dv, .inr (0, [.ref q, .ref r, .ref d, .ref lm, .ref co])), (q, .inr (2, [.long u.1.1, .long u.1.2])), (r, .inr (2, [.long u.2.1.1, .long u.2.1.2])), (d, .inr (2, [.long u.2.2.1.1, .long u.2.2.1.2])), (lm, .inr (2, [.long u.2.2.2.1, .long u.2.2.2.2]))]) := by
  refine Cl.of (by decide) ?_
  intro p e s m args below meth c A Q hB hret hP hD hA
  obtain ⟨hx, hb, hr, hlocks, hml, hown, hnm, hTB, hK⟩ := hB
  have hown : s.vm.findClass RX3 = some m.cls := hown
  have hS : va_S A s.heap s.heap [] := va_S.rf
  have hl := lv_entry ([.ref o, .int axis]) (n := 3) (Nat.le_of_ble_eq_true rfl)
  rw [lg_entry_eq]
  generalize (lg_sl ([.ref o, .int axis]) ++ List.replicate (3 - (lg_sl ([.ref o, .int axis])).length) Slot.unset).toArray = ls at hl ⊢
  have hl : lv_has ls 3 [(0, .ref o), (1, .int axis)] := hl
  refine lv_aload_n hx hb dX3_at_0 rfl (lv_at hl 0 rfl) ?_
  refine lv_iload_n hx hb dX3_at_1 rfl (lv_at hl 1 rfl) ?_
  refine vp_callSi (va_runV (As := [.int axis]) (rest := []) ⟨hx, hb, hml, hown, hTB⟩ (c_X3_isAnswerable l D cZ cI cJ o tl sx sy wx wy kx ky fx fy dv sp p1 p2 cn ph axis) (cw_V hTB tb_15_2 tb_1_2 tb_14_23 tb_15_0 tb_15_1 nd_X3_isAnswerable rfl rfl ⟨Nat.le_of_ble_eq_true rfl, Nat.le_of_ble_eq_true rfl⟩) (prr_V (q0 := 0) hK hP [0] rfl rfl rfl) rfl rfl hl.1 rfl (lv_room (Nat.le_of_ble_eq_true rfl)) dX3_at_2 ⟨Nat.le_of_ble_eq_true rfl, Nat.le_of_ble_eq_true rfl⟩).run (fun r2 hc2 => ?_)
  subst hc2
  refine lv_if_ne (tgt := 12) hx hb dX3_at_5 (by decide) (fun c_5 => ?_) (fun c_5 => ?_)
  · have c_5 := bz_1 c_5
    refine lv_iload_n hx hb dX3_at_12 rfl (lv_at hl 1 rfl) ?_
    refine lv_if_ne (tgt := 23) hx hb dX3_at_13 (by decide) (fun c_13 => ?_) (fun c_13 => ?_)
    · refine lv_aload_n hx hb dX3_at_23 rfl (lv_at hl 0 rfl) ?_
      refine va_get (D := D) (ci := 3) (v := .ref fy) (C := RX3) (T := TX3) (N := 15) hx hb hTB tb_X3 hown hK.1 hP 0 rfl rfl 10 (by decide) (hTB _ tb_2_2) (fun _ h9 => h9) rfl dX3_at_24 ?_
      refine lv_astore_n (lv' := [(2, .ref fy), (0, .ref o), (1, .int axis)]) hx hb dX3_at_27 rfl hl (by decide) rfl (fun ls hl => ?_)
      refine lv_aload_n hx hb dX3_at_28 rfl (lv_at hl 1 rfl) ?_
      refine va_get (D := D) (ci := 3) (v := .ref dv) (C := RX3) (T := TX3) (N := 15) hx hb hTB tb_X3 hown hK.1 hP 0 rfl rfl 11 (by decide) (hTB _ tb_2_6) (fun _ h9 => h9) rfl dX3_at_29 ?_
      refine lv_aload_n hx hb dX3_at_32 rfl (lv_at hl 0 rfl) ?_
      refine va_getN (D := D) (ci := 1) (v := .ref yu) (C := RX1) (T := TX1) (N := 2) hx hb hTB tb_X1 hown hK.1 hP 2 rfl rfl 0 (by decide) (va_Nw.use rfl (hK.2 _ nw_6)) (fun _ h9 => h9) rfl dX3_at_33 ?_
      refine lv_aload_n hx hb dX3_at_36 rfl (lv_at hl 0 rfl) ?_
      refine va_getN (D := D) (ci := 1) (v := .ref yl) (C := RX1) (T := TX1) (N := 2) hx hb hTB tb_X1 hown hK.1 hP 2 rfl rfl 1 (by decide) (va_Nw.use rfl (hK.2 _ nw_7)) (fun _ h9 => h9) rfl dX3_at_37 ?_
      refine lv_iconst (v := 4) hx hb dX3_at_40 (by decide) ?_
      refine fin_l (wr := [(o, .inr (3, [.ref tl, .ref sx, .ref sy, .ref wx, .ref wy, .ref kx, .ref ky, .int cn, .int ph, .ref fx, .ref fy, .ref dv, .ref sp, .ref p1, .ref p2])), (fx, .inr (1, [.ref xu, .ref xl])), (fy, .inr (1, [.ref yu, .ref yl])), (xu, .inr (2, [.long uh, .long ul])), (xl, .inr (2, [.long vh, .long vl]))]) (va_runV (As := [.ref yu, .ref yl, .int 4]) (rest := []) ⟨hx, hb, hml, hown, hTB⟩ (c_X0_rounded l D cZ cI cJ dv q r d lm co yu yl qh ql rh rl dh dl mh ml ah al bh bl 4 ((hY0 c_5.1).1) ((hY0 c_5.1).2.1) ((hY0 c_5.1).2.2) _) (cw_V hTB tb_15_6 tb_2_5 tb_15_3 tb_15_4 tb_15_5 nd_X0_rounded rfl rfl ⟨Nat.le_of_ble_eq_true rfl, Nat.le_of_ble_eq_true rfl⟩) (pre_V (q0 := 7) hK hP hD [7, 8, 9, 10, 11, 5, 6] rfl rfl rfl rfl) rfl rfl hl.1 rfl (lv_room (Nat.le_of_ble_eq_true rfl)) dX3_at_41 ⟨Nat.le_of_ble_eq_true rfl, Nat.le_of_ble_eq_true rfl⟩) hP hD hS hA [7, 8, 9, 10, 11, 5, 6] [0, 1, 2, 3, 4] rfl rfl rfl (by decide) (fun r41 u41 H locs hc41 hP hD hS => ?_)
      obtain ⟨⟨q2h, q2l⟩, ⟨r2h, r2l⟩, ⟨d2h, d2l⟩, m2h, m2l⟩ := u41
      try dsimp only at hc41
      have hP : va_P D vwCl [(o, .inr (3, [.ref tl, .ref sx, .ref sy, .ref wx, .ref wy, .ref kx, .ref ky, .int cn, .int ph, .ref fx, .ref fy, .ref dv, .ref sp, .ref p1, .ref p2])), (fx, .inr (1, [.ref xu, .ref xl])), (fy, .inr (1, [.ref yu, .ref yl])), (xu, .inr (2, [.long uh, .long ul])), (xl, .inr (2, [.long vh, .long vl])), (dv, .inr (0, [.ref q, .ref r, .ref d, .ref lm, .ref co])), (q, .inr (2, [.long q2h, .long q2l])), (r, .inr (2, [.long r2h, .long r2l])), (d, .inr (2, [.long d2h, .long d2l])), (lm, .inr (2, [.long m2h, .long m2l])), (yu, .inr (2, [.long ah, .long al])), (yl, .inr (2, [.long bh, .long bl]))] H := hP
      have hD : va_D A [(o, .inr (3, [.ref tl, .ref sx, .ref sy, .ref wx, .ref wy, .ref kx, .ref ky, .int cn, .int ph, .ref fx, .ref fy, .ref dv, .ref sp, .ref p1, .ref p2])), (fx, .inr (1, [.ref xu, .ref xl])), (fy, .inr (1, [.ref yu, .ref yl])), (xu, .inr (2, [.long uh, .long ul])), (xl, .inr (2, [.long vh, .long vl])), (dv, .inr (0, [.ref q, .ref r, .ref d, .ref lm, .ref co])), (q, .inr (2, [.long q2h, .long q2l])), (r, .inr (2, [.long r2h, .long r2l])), (d, .inr (2, [.long d2h, .long d2l])), (lm, .inr (2, [.long m2h, .long m2l])), (yu, .inr (2, [.long ah, .long al])), (yl, .inr (2, [.long bh, .long bl]))] := hD
      subst hc41
      exact hret hP hD hS ((q2h, q2l), (r2h, r2l), (d2h, d2l), (m2h, m2l)) (by rw [if_pos c_5, if_neg c_13]) [0, 1, 2, 3, 4, 10, 11, 5, 6, 7, 8, 9] rfl (by decide) dX3_at_44 (Nat.le_of_ble_eq_true rfl) (Nat.le_of_ble_eq_true rfl)
    · refine lv_aload_n hx hb dX3_at_16 rfl (lv_at hl 0 rfl) ?_
      refine va_get (D := D) (ci := 3) (v := .ref fx) (C := RX3) (T := TX3) (N := 15) hx hb hTB tb_X3 hown hK.1 hP 0 rfl rfl 9 (by decide) (hTB _ tb_2_1) (fun _ h9 => h9) rfl dX3_at_17 ?_
      refine lv_goto (tgt := 27) hx hb dX3_at_20 (by decide) ?_
      refine lv_astore_n (lv' := [(2, .ref fx), (0, .ref o), (1, .int axis)]) hx hb dX3_at_27 rfl hl (by decide) rfl (fun ls hl => ?_)
      refine lv_aload_n hx hb dX3_at_28 rfl (lv_at hl 1 rfl) ?_
      refine va_get (D := D) (ci := 3) (v := .ref dv) (C := RX3) (T := TX3) (N := 15) hx hb hTB tb_X3 hown hK.1 hP 0 rfl rfl 11 (by decide) (hTB _ tb_2_6) (fun _ h9 => h9) rfl dX3_at_29 ?_
      refine lv_aload_n hx hb dX3_at_32 rfl (lv_at hl 0 rfl) ?_
      refine va_getN (D := D) (ci := 1) (v := .ref xu) (C := RX1) (T := TX1) (N := 2) hx hb hTB tb_X1 hown hK.1 hP 1 rfl rfl 0 (by decide) (va_Nw.use rfl (hK.2 _ nw_6)) (fun _ h9 => h9) rfl dX3_at_33 ?_
      refine lv_aload_n hx hb dX3_at_36 rfl (lv_at hl 0 rfl) ?_
      refine va_getN (D := D) (ci := 1) (v := .ref xl) (C := RX1) (T := TX1) (N := 2) hx hb hTB tb_X1 hown hK.1 hP 1 rfl rfl 1 (by decide) (va_Nw.use rfl (hK.2 _ nw_7)) (fun _ h9 => h9) rfl dX3_at_37 ?_
      refine lv_iconst (v := 4) hx hb dX3_at_40 (by decide) ?_
      refine fin_l (wr := [(o, .inr (3, [.ref tl, .ref sx, .ref sy, .ref wx, .ref wy, .ref kx, .ref ky, .int cn, .int ph, .ref fx, .ref fy, .ref dv, .ref sp, .ref p1, .ref p2])), (fx, .inr (1, [.ref xu, .ref xl])), (fy, .inr (1, [.ref yu, .ref yl])), (yu, .inr (2, [.long ah, .long al])), (yl, .inr (2, [.long bh, .long bl]))]) (va_runV (As := [.ref xu, .ref xl, .int 4]) (rest := []) ⟨hx, hb, hml, hown, hTB⟩ (c_X0_rounded l D cZ cI cJ dv q r d lm co xu xl qh ql rh rl dh dl mh ml uh ul vh vl 4 ((hX0 c_5.1).1) ((hX0 c_5.1).2.1) ((hX0 c_5.1).2.2) _) (cw_V hTB tb_15_6 tb_2_5 tb_15_3 tb_15_4 tb_15_5 nd_X0_rounded rfl rfl ⟨Nat.le_of_ble_eq_true rfl, Nat.le_of_ble_eq_true rfl⟩) (pre_V (q0 := 7) hK hP hD [7, 8, 9, 10, 11, 3, 4] rfl rfl rfl rfl) rfl rfl hl.1 rfl (lv_room (Nat.le_of_ble_eq_true rfl)) dX3_at_41 ⟨Nat.le_of_ble_eq_true rfl, Nat.le_of_ble_eq_true rfl⟩) hP hD hS hA [7, 8, 9, 10, 11, 3, 4] [0, 1, 2, 5, 6] rfl rfl rfl (by decide) (fun r41 u41 H locs hc41 hP hD hS => ?_)
      obtain ⟨⟨q2h, q2l⟩, ⟨r2h, r2l⟩, ⟨d2h, d2l⟩, m2h, m2l⟩ := u41
      try dsimp only at hc41
      have hP : va_P D vwCl [(o, .inr (3, [.ref tl, .ref sx, .ref sy, .ref wx, .ref wy, .ref kx, .ref ky, .int cn, .int ph, .ref fx, .ref fy, .ref dv, .ref sp, .ref p1, .ref p2])), (fx, .inr (1, [.ref xu, .ref xl])), (fy, .inr (1, [.ref yu, .ref yl])), (yu, .inr (2, [.long ah, .long al])), (yl, .inr (2, [.long bh, .long bl])), (dv, .inr (0, [.ref q, .ref r, .ref d, .ref lm, .ref co])), (q, .inr (2, [.long q2h, .long q2l])), (r, .inr (2, [.long r2h, .long r2l])), (d, .inr (2, [.long d2h, .long d2l])), (lm, .inr (2, [.long m2h, .long m2l])), (xu, .inr (2, [.long uh, .long ul])), (xl, .inr (2, [.long vh, .long vl]))] H := hP
      have hD : va_D A [(o, .inr (3, [.ref tl, .ref sx, .ref sy, .ref wx, .ref wy, .ref kx, .ref ky, .int cn, .int ph, .ref fx, .ref fy, .ref dv, .ref sp, .ref p1, .ref p2])), (fx, .inr (1, [.ref xu, .ref xl])), (fy, .inr (1, [.ref yu, .ref yl])), (yu, .inr (2, [.long ah, .long al])), (yl, .inr (2, [.long bh, .long bl])), (dv, .inr (0, [.ref q, .ref r, .ref d, .ref lm, .ref co])), (q, .inr (2, [.long q2h, .long q2l])), (r, .inr (2, [.long r2h, .long r2l])), (d, .inr (2, [.long d2h, .long d2l])), (lm, .inr (2, [.long m2h, .long m2l])), (xu, .inr (2, [.long uh, .long ul])), (xl, .inr (2, [.long vh, .long vl]))] := hD
      subst hc41
      exact hret hP hD hS ((q2h, q2l), (r2h, r2l), (d2h, d2l), (m2h, m2l)) (by rw [if_pos c_5, if_pos c_13]) [0, 1, 2, 10, 11, 3, 4, 5, 6, 7, 8, 9] rfl (by decide) dX3_at_44 (Nat.le_of_ble_eq_true rfl) (Nat.le_of_ble_eq_true rfl)
  · have c_5 := bz_0 c_5
    refine lv_ldc2 (v := (-4611686018427387904)) hx hb hown (hTB _ tb_14_22) dX3_at_8 ?_
    exact hret hP hD hS ((qh, ql), (rh, rl), (dh, dl), (mh, ml)) (by rw [if_neg c_5]) [0, 1, 2, 3, 4, 5, 6, 7, 8, 9, 10, 11] rfl (by decide) dX3_at_11 (Nat.le_of_ble_eq_true rfl) (Nat.le_of_ble_eq_true rfl)
end
section
/-! crossings, in numbers: line a from (X, Y) by the way (U, V), line b from (X2, Y2) by (U2, V2) -/
def spn (a b c d : Int) : Int := a * d - b * c
def nrm (d z : Int) : Int := if d < 0 then -z else z
def imx (a b : Int) : Int := if b < a then a else b
def imn (a b : Int) : Int := if b < a then b else a
abbrev wbd (x y : Int64) : Prop := -2199023255552 ≤ x.toInt ∧ x.toInt ≤ 2199023255552 ∧ -2199023255552 ≤ y.toInt ∧ y.toInt ≤ 2199023255552
abbrev mtc (dn f g : Int) : Prop := 0 ≤ nrm dn f ∧ nrm dn f ≤ nrm dn dn ∧ 0 ≤ nrm dn g ∧ nrm dn g ≤ nrm dn dn
def FR (n : Int) (dn : Nat) (a b : Int) : Prop := a = n / ((Nat.gcd n.natAbs dn : Nat) : Int) ∧ b = (dn : Int) / ((Nat.gcd n.natAbs dn : Nat) : Int)
def ovl (p q r s : Int) : Int32 := if imx (imn p q) (imn r s) = imn (imx p q) (imx r s) then 1 else if imn (imx p q) (imx r s) < imx (imn p q) (imn r s) then 0 else 2
theorem nrm_abs (d : Int) : nrm d d = (d.natAbs : Int) := by unfold nrm; split <;> omega
theorem spn_bd {a b c d X Y : Int} (h1 : -X ≤ a) (h2 : a ≤ X) (h3 : -X ≤ b) (h4 : b ≤ X) (h5 : -Y ≤ c) (h6 : c ≤ Y) (h7 : -Y ≤ d) (h8 : d ≤ Y) : -(2 * (X * Y)) ≤ spn a b c d ∧ spn a b c d ≤ 2 * (X * Y) := by
  have m1 := mul_bd h1 h2 h7 h8
  have m2 := mul_bd h3 h4 h5 h6
  unfold spn
  omega
theorem nrm_bd {d z B : Int} (h1 : -B ≤ z) (h2 : z ≤ B) : -B ≤ nrm d z ∧ nrm d z ≤ B := by unfold nrm; split <;> omega
def ovA (X Y U V X2 Y2 U2 V2 : Int) : Int32 := if U = 0 then ovl Y (Y + V) Y2 (Y2 + V2) else ovl X (X + U) X2 (X2 + U2)
def ovS (X Y U V X2 Y2 U2 V2 : Int) : Int := if U = 0 then Y - imx (imn Y (Y + V)) (imn Y2 (Y2 + V2)) else X - imx (imn X (X + U)) (imn X2 (X2 + U2))
def ovX (X Y U V X2 Y2 U2 V2 : Int) : Int := if ovS X Y U V X2 Y2 U2 V2 = 0 then X else X + U
def ovY (X Y U V X2 Y2 U2 V2 : Int) : Int := if ovS X Y U V X2 Y2 U2 V2 = 0 then Y else Y + V
theorem FR_1 (n : Int) : FR n 1 n 1 := by
  unfold FR
  rw [Nat.gcd_one_right]
  exact ⟨by omega, by omega⟩
def crs (X Y U V X2 Y2 U2 V2 : Int) : Int32 := if spn U V U2 V2 = 0 then (if spn (X2 - X) (Y2 - Y) U V = 0 then ovA X Y U V X2 Y2 U2 V2 else 0) else if mtc (spn U V U2 V2) (spn (X2 - X) (Y2 - Y) U2 V2) (spn (X2 - X) (Y2 - Y) U V) then 1 else 0
def crX (X Y U V X2 Y2 U2 V2 : Int) : Int := if spn U V U2 V2 = 0 then ovX X Y U V X2 Y2 U2 V2 else nrm (spn U V U2 V2) (spn U V U2 V2) * X + nrm (spn U V U2 V2) (spn (X2 - X) (Y2 - Y) U2 V2) * U
def crY (X Y U V X2 Y2 U2 V2 : Int) : Int := if spn U V U2 V2 = 0 then ovY X Y U V X2 Y2 U2 V2 else nrm (spn U V U2 V2) (spn U V U2 V2) * Y + nrm (spn U V U2 V2) (spn (X2 - X) (Y2 - Y) U2 V2) * V
def crD (U V U2 V2 : Int) : Nat := if spn U V U2 V2 = 0 then 1 else (spn U V U2 V2).natAbs
end
section
set_option maxHeartbeats 4000000 in
set_option maxRecDepth 100000 in
theorem c_X3_meetOfOthers (l : Launch) (D : va_G) (cZ cI cJ : ClassId) (o tl sx sy wx wy kx ky fx fy dv sp p1 p2 : Nat) (cn ph : Int32) (fsx fsy fwx fwy : Nat → Int64) (a b : Int32) (sh sl fh fl gh gl : Int64) (xu xl yu yl : Nat) (uh ul vh vl ah al bh bl : Int64) (q r d lm co : Nat) (qh ql rh rl dh dl mh ml ch cl : Int64) (hDen : wv sh sl = (spn (fwx (a.toNatClampNeg)).toInt (fwy (a.toNatClampNeg)).toInt (fwx (b.toNatClampNeg)).toInt (fwy (b.toNatClampNeg)).toInt)) (hDen0 : (spn (fwx (a.toNatClampNeg)).toInt (fwy (a.toNatClampNeg)).toInt (fwx (b.toNatClampNeg)).toInt (fwy (b.toNatClampNeg)).toInt) ≠ 0) (hina : inr a 16) (hinb : inr b 16) (hsa : ogr (fsx (a.toNatClampNeg)) (fsy (a.toNatClampNeg))) (hsb : ogr (fsx (b.toNatClampNeg)) (fsy (b.toNatClampNeg))) (hwa : wbd (fwx (a.toNatClampNeg)) (fwy (a.toNatClampNeg))) (hwb : wbd (fwx (b.toNatClampNeg)) (fwy (b.toNatClampNeg))) : Ci l D cZ cI cJ yX3_meetOfOthers cX3_meetOfOthers 7 (some .int) { frames := 5, cells := 0, slots := 0, locals := 127 } [.ref o, .int a, .int b] [(o, .inr (3, [.ref tl, .ref sx, .ref sy, .ref wx, .ref wy, .ref kx, .ref ky, .int cn, .int ph, .ref fx, .ref fy, .ref dv, .ref sp, .ref p1, .ref p2])), (sx, .inl (cJ, 16, .inr (.inl fsx))), (sy, .inl (cJ, 16, .inr (.inl fsy))), (wx, .inl (cJ, 16, .inr (.inl fwx))), (wy, .inl (cJ, 16, .inr (.inl fwy))), (sp, .inr (2, [.long sh, .long sl])), (p1, .inr (2, [.long fh, .long fl])), (p2, .inr (2, [.long gh, .long gl])), (fx, .inr (1, [.ref xu, .ref xl])), (fy, .inr (1, [.ref yu, .ref yl])), (xu, .inr (2, [.long uh, .long ul])), (xl, .inr (2, [.long vh, .long vl])), (yu, .inr (2, [.long ah, .long al])), (yl, .inr (2, [.long bh, .long bl])), (dv, .inr (0, [.ref q, .ref r, .ref d, .ref lm, .ref co])), (q, .inr (2, [.long qh, .long ql])), (r, .inr (2, [.long rh, .long rl])), (d, .inr (2, [.long dh, .long dl])), (lm, .inr (2, [.long mh, .long ml])), (co, .inr (2, [.long ch, .long cl]))] (S := (Int64 × Int64) × (Int64 × Int64) × (Int64 × Int64) × (Int64 × Int64) × (Int64 × Int64) × (Int64 × Int64) × (Int64 × Int64) × (Int64 × Int64) × (Int64 × Int64) × (Int64 × Int64) × (Int64 × Int64) × (Int64 × Int64)) (fun z u => (mtc (spn (fwx (a.toNatClampNeg)).toInt (fwy (a.toNatClampNeg)).toInt (fwx (b.toNatClampNeg)).toInt (fwy (b.toNatClampNeg)).toInt) (spn ((fsx (b.toNatClampNeg)).toInt - (fsx (a.toNatClampNeg)).toInt) ((fsy (b.toNatClampNeg)).toInt - (fsy (a.toNatClampNeg)).toInt) (fwx (b.toNatClampNeg)).toInt (fwy (b.toNatClampNeg)).toInt) (spn ((fsx (b.toNatClampNeg)).toInt - (fsx (a.toNatClampNeg)).toInt) ((fsy (b.toNatClampNeg)).toInt - (fsy (a.toNatClampNeg)).toInt) (fwx (a.toNatClampNeg)).toInt (fwy (a.toNatClampNeg)).toInt) → z = 1 ∧ FR (nrm (spn (fwx (a.toNatClampNeg)).toInt (fwy (a.toNatClampNeg)).toInt (fwx (b.toNatClampNeg)).toInt (fwy (b.toNatClampNeg)).toInt) (spn (fwx (a.toNatClampNeg)).toInt (fwy (a.toNatClampNeg)).toInt (fwx (b.toNatClampNeg)).toInt (fwy (b.toNatClampNeg)).toInt) * (fsx (a.toNatClampNeg)).toInt + nrm (spn (fwx (a.toNatClampNeg)).toInt (fwy (a.toNatClampNeg)).toInt (fwx (b.toNatClampNeg)).toInt (fwy (b.toNatClampNeg)).toInt) (spn ((fsx (b.toNatClampNeg)).toInt - (fsx (a.toNatClampNeg)).toInt) ((fsy (b.toNatClampNeg)).toInt - (fsy (a.toNatClampNeg)).toInt) (fwx (b.toNatClampNeg)).toInt (fwy (b.toNatClampNeg)).toInt) * (fwx (a.toNatClampNeg)).toInt) ((spn (fwx (a.toNatClampNeg)).toInt (fwy (a.toNatClampNeg)).toInt (fwx (b.toNatClampNeg)).toInt (fwy (b.toNatClampNeg)).toInt).natAbs) (wv u.1.1 u.1.2) (wv u.2.1.1 u.2.1.2) ∧ FR (nrm (spn (fwx (a.toNatClampNeg)).toInt (fwy (a.toNatClampNeg)).toInt (fwx (b.toNatClampNeg)).toInt (fwy (b.toNatClampNeg)).toInt) (spn (fwx (a.toNatClampNeg)).toInt (fwy (a.toNatClampNeg)).toInt (fwx (b.toNatClampNeg)).toInt (fwy (b.toNatClampNeg)).toInt) * (fsy (a.toNatClampNeg)).toInt + nrm (spn (fwx (a.toNatClampNeg)).toInt (fwy (a.toNatClampNeg)).toInt (fwx (b.toNatClampNeg)).toInt (fwy (b.toNatClampNeg)).toInt) (spn ((fsx (b.toNatClampNeg)).toInt - (fsx (a.toNatClampNeg)).toInt) ((fsy (b.toNatClampNeg)).toInt - (fsy (a.toNatClampNeg)).toInt) (fwx (b.toNatClampNeg)).toInt (fwy (b.toNatClampNeg)).toInt) * (fwy (a.toNatClampNeg)).toInt) ((spn (fwx (a.toNatClampNeg)).toInt (fwy (a.toNatClampNeg)).toInt (fwx (b.toNatClampNeg)).toInt (fwy (b.toNatClampNeg)).toInt).natAbs) (wv u.2.2.1.1 u.2.2.1.2) (wv u.2.2.2.1.1 u.2.2.2.1.2)) ∧ (¬ mtc (spn (fwx (a.toNatClampNeg)).toInt (fwy (a.toNatClampNeg)).toInt (fwx (b.toNatClampNeg)).toInt (fwy (b.toNatClampNeg)).toInt) (spn ((fsx (b.toNatClampNeg)).toInt - (fsx (a.toNatClampNeg)).toInt) ((fsy (b.toNatClampNeg)).toInt - (fsy (a.toNatClampNeg)).toInt) (fwx (b.toNatClampNeg)).toInt (fwy (b.toNatClampNeg)).toInt) (spn ((fsx (b.toNatClampNeg)).toInt - (fsx (a.toNatClampNeg)).toInt) ((fsy (b.toNatClampNeg)).toInt - (fsy (a.toNatClampNeg)).toInt) (fwx (a.toNatClampNeg)).toInt (fwy (a.toNatClampNeg)).toInt) → z = 0)) (fun u => [(o, .inr (3, [.ref tl, .ref sx, .ref sy, .ref wx, .ref wy, .ref kx, .ref ky, .int cn, .int ph, .ref fx, .ref fy, .ref dv, .ref sp, .ref p1, .ref p2])), (sx, .inl (cJ, 16, .inr (.inl fsx))), (sy, .inl (cJ, 16, .inr (.inl fsy))), (wx, .inl (cJ, 16, .inr (.inl fwx))), (wy, .inl (cJ, 16, .inr (.inl fwy))), (sp, .inr (2, [.long u.2.2.2.2.1.1, .long u.2.2.2.2.1.2])), (p1, .inr (2, [.long u.2.2.2.2.2.1.1, .long u.2.2.2.2.2.1.2])), (p2, .inr (2, [.long u.2.2.2.2.2.2.1.1, .long u.2.2.2.2.2.2.1.2])), (fx, .inr (1, [.ref xu, .ref xl])), (fy, .inr (1, [.ref yu, .ref yl])), (xu, .inr (2, [.long u.1.1, .long u.1.2])), (xl, .inr (2, [.long u.2.1.1, .long u.2.1.2])), (yu, .inr (2, [.long u.2.2.1.1, .long u.2.2.1.2])), (yl, .inr (2, [.long u.2.2.2.1.1, .long u.2.2.2.1.2])), (dv, .inr (0, [.ref q, .ref r, .ref d, .ref lm, .ref co])), (q, .inr (2, [.long u.2.2.2.2.2.2.2.1.1, .long u.2.2.2.2.2.2.2.1.2])), (r, .inr (2, [.long u.2.2.2.2.2.2.2.2.1.1, .long u.2.2.2.2.2.2.2.2.1.2])), (d, .inr (2, [.long u.2.2.2.2.2.2.2.2.2.1.1, .long u.2.2.2.2.2.2.2.2.2.1.2])), (lm, .inr (2, [.long u.2.2.2.2.2.2.2.2.2.2.1.1, .long u.2.2.2.2.2.2.2.2.2.2.1.2])), (co, .inr (2, [.long u.2.2.2.2.2.2.2.2.2.2.2.1, .long u.2.2.2.2.2.2.2.2.2.2.2.2]))]) := by
  refine Ci.of (by decide) ?_
  intro p e s m args below meth c A Q hB hret hP hD hA
  obtain ⟨hx, hb, hr, hlocks, hml, hown, hnm, hTB, hK⟩ := hB
  have hown : s.vm.findClass RX3 = some m.cls := hown
  have hS : va_S A s.heap s.heap [] := va_S.rf
  have e1 : (fsx (b.toNatClampNeg) - fsx (a.toNatClampNeg)).toInt = ((fsx (b.toNatClampNeg)).toInt - (fsx (a.toNatClampNeg)).toInt) := sub_rng (by omega) (by omega)
  have e2 : (fsy (b.toNatClampNeg) - fsy (a.toNatClampNeg)).toInt = ((fsy (b.toNatClampNeg)).toInt - (fsy (a.toNatClampNeg)).toInt) := sub_rng (by omega) (by omega)
  have bf := spn_bd (a := ((fsx (b.toNatClampNeg)).toInt - (fsx (a.toNatClampNeg)).toInt)) (b := ((fsy (b.toNatClampNeg)).toInt - (fsy (a.toNatClampNeg)).toInt)) (c := (fwx (b.toNatClampNeg)).toInt) (d := (fwy (b.toNatClampNeg)).toInt) (X := 2199023255552) (Y := 2199023255552) (by omega) (by omega) (by omega) (by omega) (by omega) (by omega) (by omega) (by omega)
  have bs := spn_bd (a := ((fsx (b.toNatClampNeg)).toInt - (fsx (a.toNatClampNeg)).toInt)) (b := ((fsy (b.toNatClampNeg)).toInt - (fsy (a.toNatClampNeg)).toInt)) (c := (fwx (a.toNatClampNeg)).toInt) (d := (fwy (a.toNatClampNeg)).toInt) (X := 2199023255552) (Y := 2199023255552) (by omega) (by omega) (by omega) (by omega) (by omega) (by omega) (by omega) (by omega)
  have bd := spn_bd (a := (fwx (a.toNatClampNeg)).toInt) (b := (fwy (a.toNatClampNeg)).toInt) (c := (fwx (b.toNatClampNeg)).toInt) (d := (fwy (b.toNatClampNeg)).toInt) (X := 2199023255552) (Y := 2199023255552) (by omega) (by omega) (by omega) (by omega) (by omega) (by omega) (by omega) (by omega)
  have m1 := mul_bd (x := ((fsx (b.toNatClampNeg)).toInt - (fsx (a.toNatClampNeg)).toInt)) (y := (fwy (b.toNatClampNeg)).toInt) (X := 2199023255552) (Y := 2199023255552) (by omega) (by omega) (by omega) (by omega)
  have m2 := mul_bd (x := ((fsx (b.toNatClampNeg)).toInt - (fsx (a.toNatClampNeg)).toInt)) (y := (fwy (a.toNatClampNeg)).toInt) (X := 2199023255552) (Y := 2199023255552) (by omega) (by omega) (by omega) (by omega)
  have m3 := mul_bd (x := (fwx (a.toNatClampNeg)).toInt) (y := (fwy (b.toNatClampNeg)).toInt) (X := 2199023255552) (Y := 2199023255552) (by omega) (by omega) (by omega) (by omega)
  have hl := lv_entry ([.ref o, .int a, .int b]) (n := 7) (Nat.le_of_ble_eq_true rfl)
  rw [lg_entry_eq]
  generalize (lg_sl ([.ref o, .int a, .int b]) ++ List.replicate (7 - (lg_sl ([.ref o, .int a, .int b])).length) Slot.unset).toArray = ls at hl ⊢
  have hl : lv_has ls 7 [(0, .ref o), (1, .int a), (2, .int b)] := hl
  refine lv_aload_n hx hb dX3_meetOfOthers_0 rfl (lv_at hl 0 rfl) ?_
  refine va_get (D := D) (ci := 3) (v := .ref sx) (C := RX3) (T := TX3) (N := 15) hx hb hTB tb_X3 hown hK.1 hP 0 rfl rfl 1 (by decide) (hTB _ tb_1_16) (fun _ h9 => h9) rfl dX3_meetOfOthers_1 ?_
  refine lv_iload_n hx hb dX3_meetOfOthers_4 rfl (lv_at hl 2 rfl) ?_
  refine va_lald (f := fsx) hx hb hK.1 hP 1 2 rfl rfl (vp_in_iff.mpr ⟨by omega, by omega⟩) dX3_meetOfOthers_5 ?_
  refine lv_aload_n hx hb dX3_meetOfOthers_6 rfl (lv_at hl 0 rfl) ?_
  refine va_get (D := D) (ci := 3) (v := .ref sx) (C := RX3) (T := TX3) (N := 15) hx hb hTB tb_X3 hown hK.1 hP 0 rfl rfl 1 (by decide) (hTB _ tb_1_16) (fun _ h9 => h9) rfl dX3_meetOfOthers_7 ?_
  refine lv_iload_n hx hb dX3_meetOfOthers_10 rfl (lv_at hl 1 rfl) ?_
  refine va_lald (f := fsx) hx hb hK.1 hP 1 2 rfl rfl (vp_in_iff.mpr ⟨by omega, by omega⟩) dX3_meetOfOthers_11 ?_
  refine lv_lsub hx hb dX3_meetOfOthers_12 ?_
  refine lv_lstore_n (lv' := [(3, .long ((fsx (b.toNatClampNeg)) - (fsx (a.toNatClampNeg)))), (0, .ref o), (1, .int a), (2, .int b)]) hx hb dX3_meetOfOthers_13 rfl hl (by decide) rfl (fun ls hl => ?_)
  refine lv_aload_n hx hb dX3_meetOfOthers_14 rfl (lv_at hl 1 rfl) ?_
  refine va_get (D := D) (ci := 3) (v := .ref sy) (C := RX3) (T := TX3) (N := 15) hx hb hTB tb_X3 hown hK.1 hP 0 rfl rfl 2 (by decide) (hTB _ tb_1_17) (fun _ h9 => h9) rfl dX3_meetOfOthers_15 ?_
  refine lv_iload_n hx hb dX3_meetOfOthers_18 rfl (lv_at hl 3 rfl) ?_
  refine va_lald (f := fsy) hx hb hK.1 hP 2 2 rfl rfl (vp_in_iff.mpr ⟨by omega, by omega⟩) dX3_meetOfOthers_19 ?_
  refine lv_aload_n hx hb dX3_meetOfOthers_20 rfl (lv_at hl 1 rfl) ?_
  refine va_get (D := D) (ci := 3) (v := .ref sy) (C := RX3) (T := TX3) (N := 15) hx hb hTB tb_X3 hown hK.1 hP 0 rfl rfl 2 (by decide) (hTB _ tb_1_17) (fun _ h9 => h9) rfl dX3_meetOfOthers_21 ?_
  refine lv_iload_n hx hb dX3_meetOfOthers_24 rfl (lv_at hl 2 rfl) ?_
  refine va_lald (f := fsy) hx hb hK.1 hP 2 2 rfl rfl (vp_in_iff.mpr ⟨by omega, by omega⟩) dX3_meetOfOthers_25 ?_
  refine lv_lsub hx hb dX3_meetOfOthers_26 ?_
  refine lv_lstore (lv' := [(5, .long ((fsy (b.toNatClampNeg)) - (fsy (a.toNatClampNeg)))), (3, .long ((fsx (b.toNatClampNeg)) - (fsx (a.toNatClampNeg)))), (0, .ref o), (1, .int a), (2, .int b)]) hx hb dX3_meetOfOthers_27 hl (by decide) rfl (fun ls hl => ?_)
  refine lv_aload_n hx hb dX3_meetOfOthers_29 rfl (lv_at hl 2 rfl) ?_
  refine va_get (D := D) (ci := 3) (v := .ref p1) (C := RX3) (T := TX3) (N := 15) hx hb hTB tb_X3 hown hK.1 hP 0 rfl rfl 13 (by decide) (hTB _ tb_2_11) (fun _ h9 => h9) rfl dX3_meetOfOthers_30 ?_
  refine lv_lload_n hx hb dX3_meetOfOthers_33 rfl (lv_at hl 1 rfl) ?_
  refine lv_lload hx hb dX3_meetOfOthers_34 (lv_at hl 0 rfl) ?_
  refine lv_aload_n hx hb dX3_meetOfOthers_36 rfl (lv_at hl 2 rfl) ?_
  refine va_get (D := D) (ci := 3) (v := .ref wx) (C := RX3) (T := TX3) (N := 15) hx hb hTB tb_X3 hown hK.1 hP 0 rfl rfl 3 (by decide) (hTB _ tb_1_18) (fun _ h9 => h9) rfl dX3_meetOfOthers_37 ?_
  refine lv_iload_n hx hb dX3_meetOfOthers_40 rfl (lv_at hl 4 rfl) ?_
  refine va_lald (f := fwx) hx hb hK.1 hP 3 2 rfl rfl (vp_in_iff.mpr ⟨by omega, by omega⟩) dX3_meetOfOthers_41 ?_
  refine lv_aload_n hx hb dX3_meetOfOthers_42 rfl (lv_at hl 2 rfl) ?_
  refine va_get (D := D) (ci := 3) (v := .ref wy) (C := RX3) (T := TX3) (N := 15) hx hb hTB tb_X3 hown hK.1 hP 0 rfl rfl 4 (by decide) (hTB _ tb_1_19) (fun _ h9 => h9) rfl dX3_meetOfOthers_43 ?_
  refine lv_iload_n hx hb dX3_meetOfOthers_46 rfl (lv_at hl 4 rfl) ?_
  refine va_lald (f := fwy) hx hb hK.1 hP 4 2 rfl rfl (vp_in_iff.mpr ⟨by omega, by omega⟩) dX3_meetOfOthers_47 ?_
  refine fin_v (wr := [(o, .inr (3, [.ref tl, .ref sx, .ref sy, .ref wx, .ref wy, .ref kx, .ref ky, .int cn, .int ph, .ref fx, .ref fy, .ref dv, .ref sp, .ref p1, .ref p2])), (sx, .inl (cJ, 16, .inr (.inl fsx))), (sy, .inl (cJ, 16, .inr (.inl fsy))), (wx, .inl (cJ, 16, .inr (.inl fwx))), (wy, .inl (cJ, 16, .inr (.inl fwy))), (sp, .inr (2, [.long sh, .long sl])), (p2, .inr (2, [.long gh, .long gl])), (fx, .inr (1, [.ref xu, .ref xl])), (fy, .inr (1, [.ref yu, .ref yl])), (xu, .inr (2, [.long uh, .long ul])), (xl, .inr (2, [.long vh, .long vl])), (yu, .inr (2, [.long ah, .long al])), (yl, .inr (2, [.long bh, .long bl])), (dv, .inr (0, [.ref q, .ref r, .ref d, .ref lm, .ref co])), (q, .inr (2, [.long qh, .long ql])), (r, .inr (2, [.long rh, .long rl])), (d, .inr (2, [.long dh, .long dl])), (lm, .inr (2, [.long mh, .long ml])), (co, .inr (2, [.long ch, .long cl]))]) (va_runV (As := [.long ((fsx (b.toNatClampNeg)) - (fsx (a.toNatClampNeg))), .long ((fsy (b.toNatClampNeg)) - (fsy (a.toNatClampNeg))), .long (fwx (b.toNatClampNeg)), .long (fwy (b.toNatClampNeg))]) (rest := []) ⟨hx, hb, hml, hown, hTB⟩ (c_X2_putSpan l D cZ cI cJ p1 fh fl ((fsx (b.toNatClampNeg)) - (fsx (a.toNatClampNeg))) ((fsy (b.toNatClampNeg)) - (fsy (a.toNatClampNeg))) (fwx (b.toNatClampNeg)) (fwy (b.toNatClampNeg)) _) (cw_V hTB tb_4_16 tb_2_9 tb_4_13 tb_4_14 tb_4_15 nd_X2_putSpan rfl rfl ⟨Nat.le_of_ble_eq_true rfl, Nat.le_of_ble_eq_true rfl⟩) (pre_V (q0 := 6) hK hP hD [6] rfl rfl rfl rfl) rfl rfl hl.1 rfl (lv_room (Nat.le_of_ble_eq_true rfl)) dX3_meetOfOthers_48 ⟨Nat.le_of_ble_eq_true rfl, Nat.le_of_ble_eq_true rfl⟩) hP hD hS hA [6] [0, 1, 2, 3, 4, 5, 7, 8, 9, 10, 11, 12, 13, 14, 15, 16, 17, 18, 19] rfl rfl rfl (by decide) (fun u48 H locs hc48 hP hD hS => ?_)
  obtain ⟨w48h, w48l⟩ := u48
  try dsimp only at hc48
  have hP : va_P D vwCl [(o, .inr (3, [.ref tl, .ref sx, .ref sy, .ref wx, .ref wy, .ref kx, .ref ky, .int cn, .int ph, .ref fx, .ref fy, .ref dv, .ref sp, .ref p1, .ref p2])), (sx, .inl (cJ, 16, .inr (.inl fsx))), (sy, .inl (cJ, 16, .inr (.inl fsy))), (wx, .inl (cJ, 16, .inr (.inl fwx))), (wy, .inl (cJ, 16, .inr (.inl fwy))), (sp, .inr (2, [.long sh, .long sl])), (p2, .inr (2, [.long gh, .long gl])), (fx, .inr (1, [.ref xu, .ref xl])), (fy, .inr (1, [.ref yu, .ref yl])), (xu, .inr (2, [.long uh, .long ul])), (xl, .inr (2, [.long vh, .long vl])), (yu, .inr (2, [.long ah, .long al])), (yl, .inr (2, [.long bh, .long bl])), (dv, .inr (0, [.ref q, .ref r, .ref d, .ref lm, .ref co])), (q, .inr (2, [.long qh, .long ql])), (r, .inr (2, [.long rh, .long rl])), (d, .inr (2, [.long dh, .long dl])), (lm, .inr (2, [.long mh, .long ml])), (co, .inr (2, [.long ch, .long cl])), (p1, .inr (2, [.long w48h, .long w48l]))] H := hP
  have hD : va_D A [(o, .inr (3, [.ref tl, .ref sx, .ref sy, .ref wx, .ref wy, .ref kx, .ref ky, .int cn, .int ph, .ref fx, .ref fy, .ref dv, .ref sp, .ref p1, .ref p2])), (sx, .inl (cJ, 16, .inr (.inl fsx))), (sy, .inl (cJ, 16, .inr (.inl fsy))), (wx, .inl (cJ, 16, .inr (.inl fwx))), (wy, .inl (cJ, 16, .inr (.inl fwy))), (sp, .inr (2, [.long sh, .long sl])), (p2, .inr (2, [.long gh, .long gl])), (fx, .inr (1, [.ref xu, .ref xl])), (fy, .inr (1, [.ref yu, .ref yl])), (xu, .inr (2, [.long uh, .long ul])), (xl, .inr (2, [.long vh, .long vl])), (yu, .inr (2, [.long ah, .long al])), (yl, .inr (2, [.long bh, .long bl])), (dv, .inr (0, [.ref q, .ref r, .ref d, .ref lm, .ref co])), (q, .inr (2, [.long qh, .long ql])), (r, .inr (2, [.long rh, .long rl])), (d, .inr (2, [.long dh, .long dl])), (lm, .inr (2, [.long mh, .long ml])), (co, .inr (2, [.long ch, .long cl])), (p1, .inr (2, [.long w48h, .long w48l]))] := hD
  have e48 : wv w48h w48l = (spn ((fsx (b.toNatClampNeg)).toInt - (fsx (a.toNatClampNeg)).toInt) ((fsy (b.toNatClampNeg)).toInt - (fsy (a.toNatClampNeg)).toInt) (fwx (b.toNatClampNeg)).toInt (fwy (b.toNatClampNeg)).toInt) := by
    unfold spn
    rw [hc48 (by rw [e2]; omega) (by rw [e1]; unfold In; omega) (by rw [e1, e2]; unfold spn at bf; unfold In; omega), e1, e2]
  refine lv_aload_n hx hb dX3_meetOfOthers_51 rfl (lv_at hl 2 rfl) ?_
  refine va_get (D := D) (ci := 3) (v := .ref p2) (C := RX3) (T := TX3) (N := 15) hx hb hTB tb_X3 hown hK.1 hP 0 rfl rfl 14 (by decide) (hTB _ tb_2_12) (fun _ h9 => h9) rfl dX3_meetOfOthers_52 ?_
  refine lv_lload_n hx hb dX3_meetOfOthers_55 rfl (lv_at hl 1 rfl) ?_
  refine lv_lload hx hb dX3_meetOfOthers_56 (lv_at hl 0 rfl) ?_
  refine lv_aload_n hx hb dX3_meetOfOthers_58 rfl (lv_at hl 2 rfl) ?_
  refine va_get (D := D) (ci := 3) (v := .ref wx) (C := RX3) (T := TX3) (N := 15) hx hb hTB tb_X3 hown hK.1 hP 0 rfl rfl 3 (by decide) (hTB _ tb_1_18) (fun _ h9 => h9) rfl dX3_meetOfOthers_59 ?_
  refine lv_iload_n hx hb dX3_meetOfOthers_62 rfl (lv_at hl 3 rfl) ?_
  refine va_lald (f := fwx) hx hb hK.1 hP 3 2 rfl rfl (vp_in_iff.mpr ⟨by omega, by omega⟩) dX3_meetOfOthers_63 ?_
  refine lv_aload_n hx hb dX3_meetOfOthers_64 rfl (lv_at hl 2 rfl) ?_
  refine va_get (D := D) (ci := 3) (v := .ref wy) (C := RX3) (T := TX3) (N := 15) hx hb hTB tb_X3 hown hK.1 hP 0 rfl rfl 4 (by decide) (hTB _ tb_1_19) (fun _ h9 => h9) rfl dX3_meetOfOthers_65 ?_
  refine lv_iload_n hx hb dX3_meetOfOthers_68 rfl (lv_at hl 3 rfl) ?_
  refine va_lald (f := fwy) hx hb hK.1 hP 4 2 rfl rfl (vp_in_iff.mpr ⟨by omega, by omega⟩) dX3_meetOfOthers_69 ?_
  refine fin_v (wr := [(o, .inr (3, [.ref tl, .ref sx, .ref sy, .ref wx, .ref wy, .ref kx, .ref ky, .int cn, .int ph, .ref fx, .ref fy, .ref dv, .ref sp, .ref p1, .ref p2])), (sx, .inl (cJ, 16, .inr (.inl fsx))), (sy, .inl (cJ, 16, .inr (.inl fsy))), (wx, .inl (cJ, 16, .inr (.inl fwx))), (wy, .inl (cJ, 16, .inr (.inl fwy))), (sp, .inr (2, [.long sh, .long sl])), (fx, .inr (1, [.ref xu, .ref xl])), (fy, .inr (1, [.ref yu, .ref yl])), (xu, .inr (2, [.long uh, .long ul])), (xl, .inr (2, [.long vh, .long vl])), (yu, .inr (2, [.long ah, .long al])), (yl, .inr (2, [.long bh, .long bl])), (dv, .inr (0, [.ref q, .ref r, .ref d, .ref lm, .ref co])), (q, .inr (2, [.long qh, .long ql])), (r, .inr (2, [.long rh, .long rl])), (d, .inr (2, [.long dh, .long dl])), (lm, .inr (2, [.long mh, .long ml])), (co, .inr (2, [.long ch, .long cl])), (p1, .inr (2, [.long w48h, .long w48l]))]) (va_runV (As := [.long ((fsx (b.toNatClampNeg)) - (fsx (a.toNatClampNeg))), .long ((fsy (b.toNatClampNeg)) - (fsy (a.toNatClampNeg))), .long (fwx (a.toNatClampNeg)), .long (fwy (a.toNatClampNeg))]) (rest := []) ⟨hx, hb, hml, hown, hTB⟩ (c_X2_putSpan l D cZ cI cJ p2 gh gl ((fsx (b.toNatClampNeg)) - (fsx (a.toNatClampNeg))) ((fsy (b.toNatClampNeg)) - (fsy (a.toNatClampNeg))) (fwx (a.toNatClampNeg)) (fwy (a.toNatClampNeg)) _) (cw_V hTB tb_4_16 tb_2_9 tb_4_13 tb_4_14 tb_4_15 nd_X2_putSpan rfl rfl ⟨Nat.le_of_ble_eq_true rfl, Nat.le_of_ble_eq_true rfl⟩) (pre_V (q0 := 6) hK hP hD [6] rfl rfl rfl rfl) rfl rfl hl.1 rfl (lv_room (Nat.le_of_ble_eq_true rfl)) dX3_meetOfOthers_70 ⟨Nat.le_of_ble_eq_true rfl, Nat.le_of_ble_eq_true rfl⟩) hP hD hS hA [6] [0, 1, 2, 3, 4, 5, 7, 8, 9, 10, 11, 12, 13, 14, 15, 16, 17, 18, 19] rfl rfl rfl (by decide) (fun u70 H locs hc70 hP hD hS => ?_)
  obtain ⟨w70h, w70l⟩ := u70
  try dsimp only at hc70
  have hP : va_P D vwCl [(o, .inr (3, [.ref tl, .ref sx, .ref sy, .ref wx, .ref wy, .ref kx, .ref ky, .int cn, .int ph, .ref fx, .ref fy, .ref dv, .ref sp, .ref p1, .ref p2])), (sx, .inl (cJ, 16, .inr (.inl fsx))), (sy, .inl (cJ, 16, .inr (.inl fsy))), (wx, .inl (cJ, 16, .inr (.inl fwx))), (wy, .inl (cJ, 16, .inr (.inl fwy))), (sp, .inr (2, [.long sh, .long sl])), (fx, .inr (1, [.ref xu, .ref xl])), (fy, .inr (1, [.ref yu, .ref yl])), (xu, .inr (2, [.long uh, .long ul])), (xl, .inr (2, [.long vh, .long vl])), (yu, .inr (2, [.long ah, .long al])), (yl, .inr (2, [.long bh, .long bl])), (dv, .inr (0, [.ref q, .ref r, .ref d, .ref lm, .ref co])), (q, .inr (2, [.long qh, .long ql])), (r, .inr (2, [.long rh, .long rl])), (d, .inr (2, [.long dh, .long dl])), (lm, .inr (2, [.long mh, .long ml])), (co, .inr (2, [.long ch, .long cl])), (p1, .inr (2, [.long w48h, .long w48l])), (p2, .inr (2, [.long w70h, .long w70l]))] H := hP
  have hD : va_D A [(o, .inr (3, [.ref tl, .ref sx, .ref sy, .ref wx, .ref wy, .ref kx, .ref ky, .int cn, .int ph, .ref fx, .ref fy, .ref dv, .ref sp, .ref p1, .ref p2])), (sx, .inl (cJ, 16, .inr (.inl fsx))), (sy, .inl (cJ, 16, .inr (.inl fsy))), (wx, .inl (cJ, 16, .inr (.inl fwx))), (wy, .inl (cJ, 16, .inr (.inl fwy))), (sp, .inr (2, [.long sh, .long sl])), (fx, .inr (1, [.ref xu, .ref xl])), (fy, .inr (1, [.ref yu, .ref yl])), (xu, .inr (2, [.long uh, .long ul])), (xl, .inr (2, [.long vh, .long vl])), (yu, .inr (2, [.long ah, .long al])), (yl, .inr (2, [.long bh, .long bl])), (dv, .inr (0, [.ref q, .ref r, .ref d, .ref lm, .ref co])), (q, .inr (2, [.long qh, .long ql])), (r, .inr (2, [.long rh, .long rl])), (d, .inr (2, [.long dh, .long dl])), (lm, .inr (2, [.long mh, .long ml])), (co, .inr (2, [.long ch, .long cl])), (p1, .inr (2, [.long w48h, .long w48l])), (p2, .inr (2, [.long w70h, .long w70l]))] := hD
  have e70 : wv w70h w70l = (spn ((fsx (b.toNatClampNeg)).toInt - (fsx (a.toNatClampNeg)).toInt) ((fsy (b.toNatClampNeg)).toInt - (fsy (a.toNatClampNeg)).toInt) (fwx (a.toNatClampNeg)).toInt (fwy (a.toNatClampNeg)).toInt) := by
    unfold spn
    rw [hc70 (by rw [e2]; omega) (by rw [e1]; unfold In; omega) (by rw [e1, e2]; unfold spn at bs; unfold In; omega), e1, e2]
  refine lv_aload_n hx hb dX3_meetOfOthers_73 rfl (lv_at hl 2 rfl) ?_
  refine va_get (D := D) (ci := 3) (v := .ref sp) (C := RX3) (T := TX3) (N := 15) hx hb hTB tb_X3 hown hK.1 hP 0 rfl rfl 12 (by decide) (hTB _ tb_2_10) (fun _ h9 => h9) rfl dX3_meetOfOthers_74 ?_
  refine vp_callSi (va_runV (As := []) (rest := []) ⟨hx, hb, hml, hown, hTB⟩ (c_X2_sign l D cZ cI cJ sp sh sl) (cw_V hTB tb_5_23 tb_2_9 tb_5_20 tb_5_21 tb_5_22 nd_X2_sign rfl rfl ⟨Nat.le_of_ble_eq_true rfl, Nat.le_of_ble_eq_true rfl⟩) (prr_V (q0 := 5) hK hP [5] rfl rfl rfl) rfl rfl hl.1 rfl (lv_room (Nat.le_of_ble_eq_true rfl)) dX3_meetOfOthers_77 ⟨Nat.le_of_ble_eq_true rfl, Nat.le_of_ble_eq_true rfl⟩).run (fun r77 hc77 => ?_)
  subst hc77
  have J104 : ∀ (s2h s2l f2h f2l g2h g2l : Int64), (wv s2h s2l = nrm (spn (fwx (a.toNatClampNeg)).toInt (fwy (a.toNatClampNeg)).toInt (fwx (b.toNatClampNeg)).toInt (fwy (b.toNatClampNeg)).toInt) (spn (fwx (a.toNatClampNeg)).toInt (fwy (a.toNatClampNeg)).toInt (fwx (b.toNatClampNeg)).toInt (fwy (b.toNatClampNeg)).toInt)) → (wv f2h f2l = nrm (spn (fwx (a.toNatClampNeg)).toInt (fwy (a.toNatClampNeg)).toInt (fwx (b.toNatClampNeg)).toInt (fwy (b.toNatClampNeg)).toInt) (spn ((fsx (b.toNatClampNeg)).toInt - (fsx (a.toNatClampNeg)).toInt) ((fsy (b.toNatClampNeg)).toInt - (fsy (a.toNatClampNeg)).toInt) (fwx (b.toNatClampNeg)).toInt (fwy (b.toNatClampNeg)).toInt)) → (wv g2h g2l = nrm (spn (fwx (a.toNatClampNeg)).toInt (fwy (a.toNatClampNeg)).toInt (fwx (b.toNatClampNeg)).toInt (fwy (b.toNatClampNeg)).toInt) (spn ((fsx (b.toNatClampNeg)).toInt - (fsx (a.toNatClampNeg)).toInt) ((fsy (b.toNatClampNeg)).toInt - (fsy (a.toNatClampNeg)).toInt) (fwx (a.toNatClampNeg)).toInt (fwy (a.toNatClampNeg)).toInt)) → ∀ (H : Heap) (locs : List Loc), va_P D vwCl [(o, .inr (3, [.ref tl, .ref sx, .ref sy, .ref wx, .ref wy, .ref kx, .ref ky, .int cn, .int ph, .ref fx, .ref fy, .ref dv, .ref sp, .ref p1, .ref p2])), (sx, .inl (cJ, 16, .inr (.inl fsx))), (sy, .inl (cJ, 16, .inr (.inl fsy))), (wx, .inl (cJ, 16, .inr (.inl fwx))), (wy, .inl (cJ, 16, .inr (.inl fwy))), (sp, .inr (2, [.long s2h, .long s2l])), (fx, .inr (1, [.ref xu, .ref xl])), (fy, .inr (1, [.ref yu, .ref yl])), (xu, .inr (2, [.long uh, .long ul])), (xl, .inr (2, [.long vh, .long vl])), (yu, .inr (2, [.long ah, .long al])), (yl, .inr (2, [.long bh, .long bl])), (dv, .inr (0, [.ref q, .ref r, .ref d, .ref lm, .ref co])), (q, .inr (2, [.long qh, .long ql])), (r, .inr (2, [.long rh, .long rl])), (d, .inr (2, [.long dh, .long dl])), (lm, .inr (2, [.long mh, .long ml])), (co, .inr (2, [.long ch, .long cl])), (p1, .inr (2, [.long f2h, .long f2l])), (p2, .inr (2, [.long g2h, .long g2l]))] H → va_D A [(o, .inr (3, [.ref tl, .ref sx, .ref sy, .ref wx, .ref wy, .ref kx, .ref ky, .int cn, .int ph, .ref fx, .ref fy, .ref dv, .ref sp, .ref p1, .ref p2])), (sx, .inl (cJ, 16, .inr (.inl fsx))), (sy, .inl (cJ, 16, .inr (.inl fsy))), (wx, .inl (cJ, 16, .inr (.inl fwx))), (wy, .inl (cJ, 16, .inr (.inl fwy))), (sp, .inr (2, [.long s2h, .long s2l])), (fx, .inr (1, [.ref xu, .ref xl])), (fy, .inr (1, [.ref yu, .ref yl])), (xu, .inr (2, [.long uh, .long ul])), (xl, .inr (2, [.long vh, .long vl])), (yu, .inr (2, [.long ah, .long al])), (yl, .inr (2, [.long bh, .long bl])), (dv, .inr (0, [.ref q, .ref r, .ref d, .ref lm, .ref co])), (q, .inr (2, [.long qh, .long ql])), (r, .inr (2, [.long rh, .long rl])), (d, .inr (2, [.long dh, .long dl])), (lm, .inr (2, [.long mh, .long ml])), (co, .inr (2, [.long ch, .long cl])), (p1, .inr (2, [.long f2h, .long f2l])), (p2, .inr (2, [.long g2h, .long g2l]))] → va_S A s.heap H locs → ∀ (ls : Array Slot), lv_has ls 7 [(0, .ref o), (1, .int a), (2, .int b), (3, .long ((fsx (b.toNatClampNeg)) - (fsx (a.toNatClampNeg)))), (5, .long ((fsy (b.toNatClampNeg)) - (fsy (a.toNatClampNeg))))] → W p l e { frames := 5, cells := 0, slots := 0, locals := 127 } s m args below meth c H locs 0 0 Q (F0 m 104 ls []) := by
    intro s2h s2l f2h f2l g2h g2l z1 z2 z3 H locs hP hD hS ls hl
    have v1 := nrm_bd (d := (spn (fwx (a.toNatClampNeg)).toInt (fwy (a.toNatClampNeg)).toInt (fwx (b.toNatClampNeg)).toInt (fwy (b.toNatClampNeg)).toInt)) bd.1 bd.2
    have v2 := nrm_bd (d := (spn (fwx (a.toNatClampNeg)).toInt (fwy (a.toNatClampNeg)).toInt (fwx (b.toNatClampNeg)).toInt (fwy (b.toNatClampNeg)).toInt)) bf.1 bf.2
    have v3 := nrm_bd (d := (spn (fwx (a.toNatClampNeg)).toInt (fwy (a.toNatClampNeg)).toInt (fwx (b.toNatClampNeg)).toInt (fwy (b.toNatClampNeg)).toInt)) bs.1 bs.2
    have hd0 : 0 < ((spn (fwx (a.toNatClampNeg)).toInt (fwy (a.toNatClampNeg)).toInt (fwx (b.toNatClampNeg)).toInt (fwy (b.toNatClampNeg)).toInt).natAbs) := by omega
    have t1 := mul_bd (x := nrm (spn (fwx (a.toNatClampNeg)).toInt (fwy (a.toNatClampNeg)).toInt (fwx (b.toNatClampNeg)).toInt (fwy (b.toNatClampNeg)).toInt) (spn (fwx (a.toNatClampNeg)).toInt (fwy (a.toNatClampNeg)).toInt (fwx (b.toNatClampNeg)).toInt (fwy (b.toNatClampNeg)).toInt)) (y := (fsx (a.toNatClampNeg)).toInt) (X := 9671406556917033397649408) (Y := 1099511627776) (by omega) (by omega) (by omega) (by omega)
    have t2 := mul_bd (x := nrm (spn (fwx (a.toNatClampNeg)).toInt (fwy (a.toNatClampNeg)).toInt (fwx (b.toNatClampNeg)).toInt (fwy (b.toNatClampNeg)).toInt) (spn ((fsx (b.toNatClampNeg)).toInt - (fsx (a.toNatClampNeg)).toInt) ((fsy (b.toNatClampNeg)).toInt - (fsy (a.toNatClampNeg)).toInt) (fwx (b.toNatClampNeg)).toInt (fwy (b.toNatClampNeg)).toInt)) (y := (fwx (a.toNatClampNeg)).toInt) (X := 9671406556917033397649408) (Y := 2199023255552) (by omega) (by omega) (by omega) (by omega)
    have t3 := mul_bd (x := nrm (spn (fwx (a.toNatClampNeg)).toInt (fwy (a.toNatClampNeg)).toInt (fwx (b.toNatClampNeg)).toInt (fwy (b.toNatClampNeg)).toInt) (spn (fwx (a.toNatClampNeg)).toInt (fwy (a.toNatClampNeg)).toInt (fwx (b.toNatClampNeg)).toInt (fwy (b.toNatClampNeg)).toInt)) (y := (fsy (a.toNatClampNeg)).toInt) (X := 9671406556917033397649408) (Y := 1099511627776) (by omega) (by omega) (by omega) (by omega)
    have t4 := mul_bd (x := nrm (spn (fwx (a.toNatClampNeg)).toInt (fwy (a.toNatClampNeg)).toInt (fwx (b.toNatClampNeg)).toInt (fwy (b.toNatClampNeg)).toInt) (spn ((fsx (b.toNatClampNeg)).toInt - (fsx (a.toNatClampNeg)).toInt) ((fsy (b.toNatClampNeg)).toInt - (fsy (a.toNatClampNeg)).toInt) (fwx (b.toNatClampNeg)).toInt (fwy (b.toNatClampNeg)).toInt)) (y := (fwy (a.toNatClampNeg)).toInt) (X := 9671406556917033397649408) (Y := 2199023255552) (by omega) (by omega) (by omega) (by omega)
    refine lv_aload_n hx hb dX3_meetOfOthers_104 rfl (lv_at hl 0 rfl) ?_
    refine lv_aload_n hx hb dX3_meetOfOthers_105 rfl (lv_at hl 0 rfl) ?_
    refine va_get (D := D) (ci := 3) (v := .ref p1) (C := RX3) (T := TX3) (N := 15) hx hb hTB tb_X3 hown hK.1 hP 0 rfl rfl 13 (by decide) (hTB _ tb_2_11) (fun _ h9 => h9) rfl dX3_meetOfOthers_106 ?_
    refine vp_callSi (va_runV (As := [.ref p1]) (rest := []) ⟨hx, hb, hml, hown, hTB⟩ (c_X3_isPartOfSpan l D cZ cI cJ o tl sx sy wx wy kx ky fx fy dv sp p1 p2 cn ph s2h s2l p1 f2h f2l) (cw_V hTB tb_9_18 tb_1_2 tb_9_15 tb_9_16 tb_9_17 nd_X3_isPartOfSpan rfl rfl ⟨Nat.le_of_ble_eq_true rfl, Nat.le_of_ble_eq_true rfl⟩) (prr_V (q0 := 0) hK hP [0, 5, 18] rfl rfl rfl) rfl rfl hl.1 rfl (lv_room (Nat.le_of_ble_eq_true rfl)) dX3_meetOfOthers_109 ⟨Nat.le_of_ble_eq_true rfl, Nat.le_of_ble_eq_true rfl⟩).run (fun r109 hc109 => ?_)
    subst hc109
    refine lv_if_eq (tgt := 126) hx hb dX3_meetOfOthers_112 (by decide) (fun c_112 => ?_) (fun c_112 => ?_)
    · have c_112 := bz_0 c_112
      refine lv_iconst (v := 0) hx hb dX3_meetOfOthers_126 (by decide) ?_
      exact hret hP hD hS rfl ((uh, ul), (vh, vl), (ah, al), (bh, bl), (s2h, s2l), (f2h, f2l), (g2h, g2l), (qh, ql), (rh, rl), (dh, dl), (mh, ml), (ch, cl)) (⟨fun q => absurd q (fun q => c_112 ⟨by rw [z2]; exact q.1, by rw [z2, z1]; exact q.2.1⟩), fun _ => rfl⟩) [0, 1, 2, 3, 4, 5, 18, 19, 6, 7, 8, 9, 10, 11, 12, 13, 14, 15, 16, 17] rfl (by decide) dX3_meetOfOthers_127 (Nat.le_of_ble_eq_true rfl) (Nat.le_of_ble_eq_true rfl)
    · have c_112 := bz_1 c_112
      refine lv_aload_n hx hb dX3_meetOfOthers_115 rfl (lv_at hl 0 rfl) ?_
      refine lv_aload_n hx hb dX3_meetOfOthers_116 rfl (lv_at hl 0 rfl) ?_
      refine va_get (D := D) (ci := 3) (v := .ref p2) (C := RX3) (T := TX3) (N := 15) hx hb hTB tb_X3 hown hK.1 hP 0 rfl rfl 14 (by decide) (hTB _ tb_2_12) (fun _ h9 => h9) rfl dX3_meetOfOthers_117 ?_
      refine vp_callSi (va_runV (As := [.ref p2]) (rest := []) ⟨hx, hb, hml, hown, hTB⟩ (c_X3_isPartOfSpan l D cZ cI cJ o tl sx sy wx wy kx ky fx fy dv sp p1 p2 cn ph s2h s2l p2 g2h g2l) (cw_V hTB tb_9_18 tb_1_2 tb_9_15 tb_9_16 tb_9_17 nd_X3_isPartOfSpan rfl rfl ⟨Nat.le_of_ble_eq_true rfl, Nat.le_of_ble_eq_true rfl⟩) (prr_V (q0 := 0) hK hP [0, 5, 19] rfl rfl rfl) rfl rfl hl.1 rfl (lv_room (Nat.le_of_ble_eq_true rfl)) dX3_meetOfOthers_120 ⟨Nat.le_of_ble_eq_true rfl, Nat.le_of_ble_eq_true rfl⟩).run (fun r120 hc120 => ?_)
      subst hc120
      refine lv_if_ne (tgt := 128) hx hb dX3_meetOfOthers_123 (by decide) (fun c_123 => ?_) (fun c_123 => ?_)
      · have c_123 := bz_1 c_123
        refine lv_aload_n hx hb dX3_meetOfOthers_128 rfl (lv_at hl 0 rfl) ?_
        refine va_get (D := D) (ci := 3) (v := .ref fx) (C := RX3) (T := TX3) (N := 15) hx hb hTB tb_X3 hown hK.1 hP 0 rfl rfl 9 (by decide) (hTB _ tb_2_1) (fun _ h9 => h9) rfl dX3_meetOfOthers_129 ?_
        refine lv_aload_n hx hb dX3_meetOfOthers_132 rfl (lv_at hl 0 rfl) ?_
        refine va_get (D := D) (ci := 3) (v := .ref sx) (C := RX3) (T := TX3) (N := 15) hx hb hTB tb_X3 hown hK.1 hP 0 rfl rfl 1 (by decide) (hTB _ tb_1_16) (fun _ h9 => h9) rfl dX3_meetOfOthers_133 ?_
        refine lv_iload_n hx hb dX3_meetOfOthers_136 rfl (lv_at hl 1 rfl) ?_
        refine va_lald (f := fsx) hx hb hK.1 hP 1 2 rfl rfl (vp_in_iff.mpr ⟨by omega, by omega⟩) dX3_meetOfOthers_137 ?_
        refine lv_aload_n hx hb dX3_meetOfOthers_138 rfl (lv_at hl 0 rfl) ?_
        refine va_get (D := D) (ci := 3) (v := .ref wx) (C := RX3) (T := TX3) (N := 15) hx hb hTB tb_X3 hown hK.1 hP 0 rfl rfl 3 (by decide) (hTB _ tb_1_18) (fun _ h9 => h9) rfl dX3_meetOfOthers_139 ?_
        refine lv_iload_n hx hb dX3_meetOfOthers_142 rfl (lv_at hl 1 rfl) ?_
        refine va_lald (f := fwx) hx hb hK.1 hP 3 2 rfl rfl (vp_in_iff.mpr ⟨by omega, by omega⟩) dX3_meetOfOthers_143 ?_
        refine lv_aload_n hx hb dX3_meetOfOthers_144 rfl (lv_at hl 0 rfl) ?_
        refine va_get (D := D) (ci := 3) (v := .ref p1) (C := RX3) (T := TX3) (N := 15) hx hb hTB tb_X3 hown hK.1 hP 0 rfl rfl 13 (by decide) (hTB _ tb_2_11) (fun _ h9 => h9) rfl dX3_meetOfOthers_145 ?_
        refine lv_aload_n hx hb dX3_meetOfOthers_148 rfl (lv_at hl 0 rfl) ?_
        refine va_get (D := D) (ci := 3) (v := .ref sp) (C := RX3) (T := TX3) (N := 15) hx hb hTB tb_X3 hown hK.1 hP 0 rfl rfl 12 (by decide) (hTB _ tb_2_10) (fun _ h9 => h9) rfl dX3_meetOfOthers_149 ?_
        refine fin_v (wr := [(o, .inr (3, [.ref tl, .ref sx, .ref sy, .ref wx, .ref wy, .ref kx, .ref ky, .int cn, .int ph, .ref fx, .ref fy, .ref dv, .ref sp, .ref p1, .ref p2])), (sx, .inl (cJ, 16, .inr (.inl fsx))), (sy, .inl (cJ, 16, .inr (.inl fsy))), (wx, .inl (cJ, 16, .inr (.inl fwx))), (wy, .inl (cJ, 16, .inr (.inl fwy))), (fy, .inr (1, [.ref yu, .ref yl])), (yu, .inr (2, [.long ah, .long al])), (yl, .inr (2, [.long bh, .long bl])), (dv, .inr (0, [.ref q, .ref r, .ref d, .ref lm, .ref co])), (q, .inr (2, [.long qh, .long ql])), (r, .inr (2, [.long rh, .long rl])), (d, .inr (2, [.long dh, .long dl])), (lm, .inr (2, [.long mh, .long ml])), (co, .inr (2, [.long ch, .long cl])), (p2, .inr (2, [.long g2h, .long g2l]))]) (va_runV (As := [.long (fsx (a.toNatClampNeg)), .long (fwx (a.toNatClampNeg)), .ref p1, .ref sp]) (rest := []) ⟨hx, hb, hml, hown, hTB⟩ (c_X1_putOnWay l D cZ cI cJ fx xu xl p1 sp uh ul vh vl f2h f2l s2h s2l (fsx (a.toNatClampNeg)) (fwx (a.toNatClampNeg)) (by rw [z1]; unfold In; omega) (by rw [z2]; unfold In; omega) (by rw [z1, z2]; unfold In; omega) _) (cw_V hTB tb_10_2 tb_2_0 tb_9_23 tb_10_0 tb_10_1 nd_X1_putOnWay rfl rfl ⟨Nat.le_of_ble_eq_true rfl, Nat.le_of_ble_eq_true rfl⟩) (pre_V (q0 := 6) hK hP hD [6, 8, 9, 18, 5] rfl rfl rfl rfl) rfl rfl hl.1 rfl (lv_room (Nat.le_of_ble_eq_true rfl)) dX3_meetOfOthers_152 ⟨Nat.le_of_ble_eq_true rfl, Nat.le_of_ble_eq_true rfl⟩) hP hD hS hA [6, 8, 9, 18, 5] [0, 1, 2, 3, 4, 7, 10, 11, 12, 13, 14, 15, 16, 17, 19] rfl rfl rfl (by decide) (fun u152 H locs hc152 hP hD hS => ?_)
        obtain ⟨⟨y152a, y152b⟩, y152c, y152d⟩ := u152
        dsimp only at hc152
        obtain ⟨en152, el152⟩ := hc152
        cases el152
        have hP : va_P D vwCl [(o, .inr (3, [.ref tl, .ref sx, .ref sy, .ref wx, .ref wy, .ref kx, .ref ky, .int cn, .int ph, .ref fx, .ref fy, .ref dv, .ref sp, .ref p1, .ref p2])), (sx, .inl (cJ, 16, .inr (.inl fsx))), (sy, .inl (cJ, 16, .inr (.inl fsy))), (wx, .inl (cJ, 16, .inr (.inl fwx))), (wy, .inl (cJ, 16, .inr (.inl fwy))), (fy, .inr (1, [.ref yu, .ref yl])), (yu, .inr (2, [.long ah, .long al])), (yl, .inr (2, [.long bh, .long bl])), (dv, .inr (0, [.ref q, .ref r, .ref d, .ref lm, .ref co])), (q, .inr (2, [.long qh, .long ql])), (r, .inr (2, [.long rh, .long rl])), (d, .inr (2, [.long dh, .long dl])), (lm, .inr (2, [.long mh, .long ml])), (co, .inr (2, [.long ch, .long cl])), (p2, .inr (2, [.long g2h, .long g2l])), (fx, .inr (1, [.ref xu, .ref xl])), (xu, .inr (2, [.long y152a, .long y152b])), (xl, .inr (2, [.long s2h, .long s2l])), (p1, .inr (2, [.long f2h, .long f2l])), (sp, .inr (2, [.long s2h, .long s2l]))] H := hP
        have hD : va_D A [(o, .inr (3, [.ref tl, .ref sx, .ref sy, .ref wx, .ref wy, .ref kx, .ref ky, .int cn, .int ph, .ref fx, .ref fy, .ref dv, .ref sp, .ref p1, .ref p2])), (sx, .inl (cJ, 16, .inr (.inl fsx))), (sy, .inl (cJ, 16, .inr (.inl fsy))), (wx, .inl (cJ, 16, .inr (.inl fwx))), (wy, .inl (cJ, 16, .inr (.inl fwy))), (fy, .inr (1, [.ref yu, .ref yl])), (yu, .inr (2, [.long ah, .long al])), (yl, .inr (2, [.long bh, .long bl])), (dv, .inr (0, [.ref q, .ref r, .ref d, .ref lm, .ref co])), (q, .inr (2, [.long qh, .long ql])), (r, .inr (2, [.long rh, .long rl])), (d, .inr (2, [.long dh, .long dl])), (lm, .inr (2, [.long mh, .long ml])), (co, .inr (2, [.long ch, .long cl])), (p2, .inr (2, [.long g2h, .long g2l])), (fx, .inr (1, [.ref xu, .ref xl])), (xu, .inr (2, [.long y152a, .long y152b])), (xl, .inr (2, [.long s2h, .long s2l])), (p1, .inr (2, [.long f2h, .long f2l])), (sp, .inr (2, [.long s2h, .long s2l]))] := hD
        refine lv_aload_n hx hb dX3_meetOfOthers_155 rfl (lv_at hl 0 rfl) ?_
        refine va_get (D := D) (ci := 3) (v := .ref fx) (C := RX3) (T := TX3) (N := 15) hx hb hTB tb_X3 hown hK.1 hP 0 rfl rfl 9 (by decide) (hTB _ tb_2_1) (fun _ h9 => h9) rfl dX3_meetOfOthers_156 ?_
        refine lv_aload_n hx hb dX3_meetOfOthers_159 rfl (lv_at hl 0 rfl) ?_
        refine va_get (D := D) (ci := 3) (v := .ref dv) (C := RX3) (T := TX3) (N := 15) hx hb hTB tb_X3 hown hK.1 hP 0 rfl rfl 11 (by decide) (hTB _ tb_2_6) (fun _ h9 => h9) rfl dX3_meetOfOthers_160 ?_
        refine fin_v (wr := [(o, .inr (3, [.ref tl, .ref sx, .ref sy, .ref wx, .ref wy, .ref kx, .ref ky, .int cn, .int ph, .ref fx, .ref fy, .ref dv, .ref sp, .ref p1, .ref p2])), (sx, .inl (cJ, 16, .inr (.inl fsx))), (sy, .inl (cJ, 16, .inr (.inl fsy))), (wx, .inl (cJ, 16, .inr (.inl fwx))), (wy, .inl (cJ, 16, .inr (.inl fwy))), (fy, .inr (1, [.ref yu, .ref yl])), (yu, .inr (2, [.long ah, .long al])), (yl, .inr (2, [.long bh, .long bl])), (p2, .inr (2, [.long g2h, .long g2l])), (p1, .inr (2, [.long f2h, .long f2l])), (sp, .inr (2, [.long s2h, .long s2l]))]) (va_runV (As := [.ref dv]) (rest := []) ⟨hx, hb, hml, hown, hTB⟩ (c_X1_reduce l D cZ cI cJ fx xu xl dv q r d lm co y152a y152b s2h s2l qh ql rh rl dh dl mh ml ch cl ((spn (fwx (a.toNatClampNeg)).toInt (fwy (a.toNatClampNeg)).toInt (fwx (b.toNatClampNeg)).toInt (fwy (b.toNatClampNeg)).toInt).natAbs) (by rw [z1]; exact nrm_abs _) hd0 (by rw [en152, z1, z2]; omega) _) (cw_V hTB tb_10_14 tb_2_0 tb_10_11 tb_10_12 tb_10_13 nd_X1_reduce rfl rfl ⟨Nat.le_of_ble_eq_true rfl, Nat.le_of_ble_eq_true rfl⟩) (pre_V (q0 := 15) hK hP hD [15, 16, 17, 8, 9, 10, 11, 12, 13] rfl rfl rfl rfl) rfl rfl hl.1 rfl (lv_room (Nat.le_of_ble_eq_true rfl)) dX3_meetOfOthers_163 ⟨Nat.le_of_ble_eq_true rfl, Nat.le_of_ble_eq_true rfl⟩) hP hD hS hA [15, 16, 17, 8, 9, 10, 11, 12, 13] [0, 1, 2, 3, 4, 5, 6, 7, 14, 18, 19] rfl rfl rfl (by decide) (fun u163 H locs hc163 hP hD hS => ?_)
        obtain ⟨⟨x163a, x163b⟩, ⟨x163c, x163d⟩, ⟨x163e, x163f⟩, ⟨x163g, x163h⟩, ⟨x163i, x163j⟩, ⟨x163k, x163l⟩, x163m, x163n⟩ := u163
        dsimp only at hc163
        rw [en152, z1, z2] at hc163
        have hP : va_P D vwCl [(o, .inr (3, [.ref tl, .ref sx, .ref sy, .ref wx, .ref wy, .ref kx, .ref ky, .int cn, .int ph, .ref fx, .ref fy, .ref dv, .ref sp, .ref p1, .ref p2])), (sx, .inl (cJ, 16, .inr (.inl fsx))), (sy, .inl (cJ, 16, .inr (.inl fsy))), (wx, .inl (cJ, 16, .inr (.inl fwx))), (wy, .inl (cJ, 16, .inr (.inl fwy))), (fy, .inr (1, [.ref yu, .ref yl])), (yu, .inr (2, [.long ah, .long al])), (yl, .inr (2, [.long bh, .long bl])), (p2, .inr (2, [.long g2h, .long g2l])), (p1, .inr (2, [.long f2h, .long f2l])), (sp, .inr (2, [.long s2h, .long s2l])), (fx, .inr (1, [.ref xu, .ref xl])), (xu, .inr (2, [.long x163a, .long x163b])), (xl, .inr (2, [.long x163c, .long x163d])), (dv, .inr (0, [.ref q, .ref r, .ref d, .ref lm, .ref co])), (q, .inr (2, [.long x163e, .long x163f])), (r, .inr (2, [.long x163g, .long x163h])), (d, .inr (2, [.long x163i, .long x163j])), (lm, .inr (2, [.long x163k, .long x163l])), (co, .inr (2, [.long x163m, .long x163n]))] H := hP
        have hD : va_D A [(o, .inr (3, [.ref tl, .ref sx, .ref sy, .ref wx, .ref wy, .ref kx, .ref ky, .int cn, .int ph, .ref fx, .ref fy, .ref dv, .ref sp, .ref p1, .ref p2])), (sx, .inl (cJ, 16, .inr (.inl fsx))), (sy, .inl (cJ, 16, .inr (.inl fsy))), (wx, .inl (cJ, 16, .inr (.inl fwx))), (wy, .inl (cJ, 16, .inr (.inl fwy))), (fy, .inr (1, [.ref yu, .ref yl])), (yu, .inr (2, [.long ah, .long al])), (yl, .inr (2, [.long bh, .long bl])), (p2, .inr (2, [.long g2h, .long g2l])), (p1, .inr (2, [.long f2h, .long f2l])), (sp, .inr (2, [.long s2h, .long s2l])), (fx, .inr (1, [.ref xu, .ref xl])), (xu, .inr (2, [.long x163a, .long x163b])), (xl, .inr (2, [.long x163c, .long x163d])), (dv, .inr (0, [.ref q, .ref r, .ref d, .ref lm, .ref co])), (q, .inr (2, [.long x163e, .long x163f])), (r, .inr (2, [.long x163g, .long x163h])), (d, .inr (2, [.long x163i, .long x163j])), (lm, .inr (2, [.long x163k, .long x163l])), (co, .inr (2, [.long x163m, .long x163n]))] := hD
        refine lv_aload_n hx hb dX3_meetOfOthers_166 rfl (lv_at hl 0 rfl) ?_
        refine va_get (D := D) (ci := 3) (v := .ref fy) (C := RX3) (T := TX3) (N := 15) hx hb hTB tb_X3 hown hK.1 hP 0 rfl rfl 10 (by decide) (hTB _ tb_2_2) (fun _ h9 => h9) rfl dX3_meetOfOthers_167 ?_
        refine lv_aload_n hx hb dX3_meetOfOthers_170 rfl (lv_at hl 0 rfl) ?_
        refine va_get (D := D) (ci := 3) (v := .ref sy) (C := RX3) (T := TX3) (N := 15) hx hb hTB tb_X3 hown hK.1 hP 0 rfl rfl 2 (by decide) (hTB _ tb_1_17) (fun _ h9 => h9) rfl dX3_meetOfOthers_171 ?_
        refine lv_iload_n hx hb dX3_meetOfOthers_174 rfl (lv_at hl 1 rfl) ?_
        refine va_lald (f := fsy) hx hb hK.1 hP 2 2 rfl rfl (vp_in_iff.mpr ⟨by omega, by omega⟩) dX3_meetOfOthers_175 ?_
        refine lv_aload_n hx hb dX3_meetOfOthers_176 rfl (lv_at hl 0 rfl) ?_
        refine va_get (D := D) (ci := 3) (v := .ref wy) (C := RX3) (T := TX3) (N := 15) hx hb hTB tb_X3 hown hK.1 hP 0 rfl rfl 4 (by decide) (hTB _ tb_1_19) (fun _ h9 => h9) rfl dX3_meetOfOthers_177 ?_
        refine lv_iload_n hx hb dX3_meetOfOthers_180 rfl (lv_at hl 1 rfl) ?_
        refine va_lald (f := fwy) hx hb hK.1 hP 4 2 rfl rfl (vp_in_iff.mpr ⟨by omega, by omega⟩) dX3_meetOfOthers_181 ?_
        refine lv_aload_n hx hb dX3_meetOfOthers_182 rfl (lv_at hl 0 rfl) ?_
        refine va_get (D := D) (ci := 3) (v := .ref p1) (C := RX3) (T := TX3) (N := 15) hx hb hTB tb_X3 hown hK.1 hP 0 rfl rfl 13 (by decide) (hTB _ tb_2_11) (fun _ h9 => h9) rfl dX3_meetOfOthers_183 ?_
        refine lv_aload_n hx hb dX3_meetOfOthers_186 rfl (lv_at hl 0 rfl) ?_
        refine va_get (D := D) (ci := 3) (v := .ref sp) (C := RX3) (T := TX3) (N := 15) hx hb hTB tb_X3 hown hK.1 hP 0 rfl rfl 12 (by decide) (hTB _ tb_2_10) (fun _ h9 => h9) rfl dX3_meetOfOthers_187 ?_
        refine fin_v (wr := [(o, .inr (3, [.ref tl, .ref sx, .ref sy, .ref wx, .ref wy, .ref kx, .ref ky, .int cn, .int ph, .ref fx, .ref fy, .ref dv, .ref sp, .ref p1, .ref p2])), (sx, .inl (cJ, 16, .inr (.inl fsx))), (sy, .inl (cJ, 16, .inr (.inl fsy))), (wx, .inl (cJ, 16, .inr (.inl fwx))), (wy, .inl (cJ, 16, .inr (.inl fwy))), (p2, .inr (2, [.long g2h, .long g2l])), (fx, .inr (1, [.ref xu, .ref xl])), (xu, .inr (2, [.long x163a, .long x163b])), (xl, .inr (2, [.long x163c, .long x163d])), (dv, .inr (0, [.ref q, .ref r, .ref d, .ref lm, .ref co])), (q, .inr (2, [.long x163e, .long x163f])), (r, .inr (2, [.long x163g, .long x163h])), (d, .inr (2, [.long x163i, .long x163j])), (lm, .inr (2, [.long x163k, .long x163l])), (co, .inr (2, [.long x163m, .long x163n]))]) (va_runV (As := [.long (fsy (a.toNatClampNeg)), .long (fwy (a.toNatClampNeg)), .ref p1, .ref sp]) (rest := []) ⟨hx, hb, hml, hown, hTB⟩ (c_X1_putOnWay l D cZ cI cJ fy yu yl p1 sp ah al bh bl f2h f2l s2h s2l (fsy (a.toNatClampNeg)) (fwy (a.toNatClampNeg)) (by rw [z1]; unfold In; omega) (by rw [z2]; unfold In; omega) (by rw [z1, z2]; unfold In; omega) _) (cw_V hTB tb_10_2 tb_2_0 tb_9_23 tb_10_0 tb_10_1 nd_X1_putOnWay rfl rfl ⟨Nat.le_of_ble_eq_true rfl, Nat.le_of_ble_eq_true rfl⟩) (pre_V (q0 := 5) hK hP hD [5, 6, 7, 9, 10] rfl rfl rfl rfl) rfl rfl hl.1 rfl (lv_room (Nat.le_of_ble_eq_true rfl)) dX3_meetOfOthers_190 ⟨Nat.le_of_ble_eq_true rfl, Nat.le_of_ble_eq_true rfl⟩) hP hD hS hA [5, 6, 7, 9, 10] [0, 1, 2, 3, 4, 8, 11, 12, 13, 14, 15, 16, 17, 18, 19] rfl rfl rfl (by decide) (fun u190 H locs hc190 hP hD hS => ?_)
        obtain ⟨⟨y190a, y190b⟩, y190c, y190d⟩ := u190
        dsimp only at hc190
        obtain ⟨en190, el190⟩ := hc190
        cases el190
        have hP : va_P D vwCl [(o, .inr (3, [.ref tl, .ref sx, .ref sy, .ref wx, .ref wy, .ref kx, .ref ky, .int cn, .int ph, .ref fx, .ref fy, .ref dv, .ref sp, .ref p1, .ref p2])), (sx, .inl (cJ, 16, .inr (.inl fsx))), (sy, .inl (cJ, 16, .inr (.inl fsy))), (wx, .inl (cJ, 16, .inr (.inl fwx))), (wy, .inl (cJ, 16, .inr (.inl fwy))), (p2, .inr (2, [.long g2h, .long g2l])), (fx, .inr (1, [.ref xu, .ref xl])), (xu, .inr (2, [.long x163a, .long x163b])), (xl, .inr (2, [.long x163c, .long x163d])), (dv, .inr (0, [.ref q, .ref r, .ref d, .ref lm, .ref co])), (q, .inr (2, [.long x163e, .long x163f])), (r, .inr (2, [.long x163g, .long x163h])), (d, .inr (2, [.long x163i, .long x163j])), (lm, .inr (2, [.long x163k, .long x163l])), (co, .inr (2, [.long x163m, .long x163n])), (fy, .inr (1, [.ref yu, .ref yl])), (yu, .inr (2, [.long y190a, .long y190b])), (yl, .inr (2, [.long s2h, .long s2l])), (p1, .inr (2, [.long f2h, .long f2l])), (sp, .inr (2, [.long s2h, .long s2l]))] H := hP
        have hD : va_D A [(o, .inr (3, [.ref tl, .ref sx, .ref sy, .ref wx, .ref wy, .ref kx, .ref ky, .int cn, .int ph, .ref fx, .ref fy, .ref dv, .ref sp, .ref p1, .ref p2])), (sx, .inl (cJ, 16, .inr (.inl fsx))), (sy, .inl (cJ, 16, .inr (.inl fsy))), (wx, .inl (cJ, 16, .inr (.inl fwx))), (wy, .inl (cJ, 16, .inr (.inl fwy))), (p2, .inr (2, [.long g2h, .long g2l])), (fx, .inr (1, [.ref xu, .ref xl])), (xu, .inr (2, [.long x163a, .long x163b])), (xl, .inr (2, [.long x163c, .long x163d])), (dv, .inr (0, [.ref q, .ref r, .ref d, .ref lm, .ref co])), (q, .inr (2, [.long x163e, .long x163f])), (r, .inr (2, [.long x163g, .long x163h])), (d, .inr (2, [.long x163i, .long x163j])), (lm, .inr (2, [.long x163k, .long x163l])), (co, .inr (2, [.long x163m, .long x163n])), (fy, .inr (1, [.ref yu, .ref yl])), (yu, .inr (2, [.long y190a, .long y190b])), (yl, .inr (2, [.long s2h, .long s2l])), (p1, .inr (2, [.long f2h, .long f2l])), (sp, .inr (2, [.long s2h, .long s2l]))] := hD
        refine lv_aload_n hx hb dX3_meetOfOthers_193 rfl (lv_at hl 0 rfl) ?_
        refine va_get (D := D) (ci := 3) (v := .ref fy) (C := RX3) (T := TX3) (N := 15) hx hb hTB tb_X3 hown hK.1 hP 0 rfl rfl 10 (by decide) (hTB _ tb_2_2) (fun _ h9 => h9) rfl dX3_meetOfOthers_194 ?_
        refine lv_aload_n hx hb dX3_meetOfOthers_197 rfl (lv_at hl 0 rfl) ?_
        refine va_get (D := D) (ci := 3) (v := .ref dv) (C := RX3) (T := TX3) (N := 15) hx hb hTB tb_X3 hown hK.1 hP 0 rfl rfl 11 (by decide) (hTB _ tb_2_6) (fun _ h9 => h9) rfl dX3_meetOfOthers_198 ?_
        refine fin_v (wr := [(o, .inr (3, [.ref tl, .ref sx, .ref sy, .ref wx, .ref wy, .ref kx, .ref ky, .int cn, .int ph, .ref fx, .ref fy, .ref dv, .ref sp, .ref p1, .ref p2])), (sx, .inl (cJ, 16, .inr (.inl fsx))), (sy, .inl (cJ, 16, .inr (.inl fsy))), (wx, .inl (cJ, 16, .inr (.inl fwx))), (wy, .inl (cJ, 16, .inr (.inl fwy))), (p2, .inr (2, [.long g2h, .long g2l])), (fx, .inr (1, [.ref xu, .ref xl])), (xu, .inr (2, [.long x163a, .long x163b])), (xl, .inr (2, [.long x163c, .long x163d])), (p1, .inr (2, [.long f2h, .long f2l])), (sp, .inr (2, [.long s2h, .long s2l]))]) (va_runV (As := [.ref dv]) (rest := []) ⟨hx, hb, hml, hown, hTB⟩ (c_X1_reduce l D cZ cI cJ fy yu yl dv q r d lm co y190a y190b s2h s2l x163e x163f x163g x163h x163i x163j x163k x163l x163m x163n ((spn (fwx (a.toNatClampNeg)).toInt (fwy (a.toNatClampNeg)).toInt (fwx (b.toNatClampNeg)).toInt (fwy (b.toNatClampNeg)).toInt).natAbs) (by rw [z1]; exact nrm_abs _) hd0 (by rw [en190, z1, z2]; omega) _) (cw_V hTB tb_10_14 tb_2_0 tb_10_11 tb_10_12 tb_10_13 nd_X1_reduce rfl rfl ⟨Nat.le_of_ble_eq_true rfl, Nat.le_of_ble_eq_true rfl⟩) (pre_V (q0 := 15) hK hP hD [15, 16, 17, 9, 10, 11, 12, 13, 14] rfl rfl rfl rfl) rfl rfl hl.1 rfl (lv_room (Nat.le_of_ble_eq_true rfl)) dX3_meetOfOthers_201 ⟨Nat.le_of_ble_eq_true rfl, Nat.le_of_ble_eq_true rfl⟩) hP hD hS hA [15, 16, 17, 9, 10, 11, 12, 13, 14] [0, 1, 2, 3, 4, 5, 6, 7, 8, 18, 19] rfl rfl rfl (by decide) (fun u201 H locs hc201 hP hD hS => ?_)
        obtain ⟨⟨x201a, x201b⟩, ⟨x201c, x201d⟩, ⟨x201e, x201f⟩, ⟨x201g, x201h⟩, ⟨x201i, x201j⟩, ⟨x201k, x201l⟩, x201m, x201n⟩ := u201
        dsimp only at hc201
        rw [en190, z1, z2] at hc201
        have hP : va_P D vwCl [(o, .inr (3, [.ref tl, .ref sx, .ref sy, .ref wx, .ref wy, .ref kx, .ref ky, .int cn, .int ph, .ref fx, .ref fy, .ref dv, .ref sp, .ref p1, .ref p2])), (sx, .inl (cJ, 16, .inr (.inl fsx))), (sy, .inl (cJ, 16, .inr (.inl fsy))), (wx, .inl (cJ, 16, .inr (.inl fwx))), (wy, .inl (cJ, 16, .inr (.inl fwy))), (p2, .inr (2, [.long g2h, .long g2l])), (fx, .inr (1, [.ref xu, .ref xl])), (xu, .inr (2, [.long x163a, .long x163b])), (xl, .inr (2, [.long x163c, .long x163d])), (p1, .inr (2, [.long f2h, .long f2l])), (sp, .inr (2, [.long s2h, .long s2l])), (fy, .inr (1, [.ref yu, .ref yl])), (yu, .inr (2, [.long x201a, .long x201b])), (yl, .inr (2, [.long x201c, .long x201d])), (dv, .inr (0, [.ref q, .ref r, .ref d, .ref lm, .ref co])), (q, .inr (2, [.long x201e, .long x201f])), (r, .inr (2, [.long x201g, .long x201h])), (d, .inr (2, [.long x201i, .long x201j])), (lm, .inr (2, [.long x201k, .long x201l])), (co, .inr (2, [.long x201m, .long x201n]))] H := hP
        have hD : va_D A [(o, .inr (3, [.ref tl, .ref sx, .ref sy, .ref wx, .ref wy, .ref kx, .ref ky, .int cn, .int ph, .ref fx, .ref fy, .ref dv, .ref sp, .ref p1, .ref p2])), (sx, .inl (cJ, 16, .inr (.inl fsx))), (sy, .inl (cJ, 16, .inr (.inl fsy))), (wx, .inl (cJ, 16, .inr (.inl fwx))), (wy, .inl (cJ, 16, .inr (.inl fwy))), (p2, .inr (2, [.long g2h, .long g2l])), (fx, .inr (1, [.ref xu, .ref xl])), (xu, .inr (2, [.long x163a, .long x163b])), (xl, .inr (2, [.long x163c, .long x163d])), (p1, .inr (2, [.long f2h, .long f2l])), (sp, .inr (2, [.long s2h, .long s2l])), (fy, .inr (1, [.ref yu, .ref yl])), (yu, .inr (2, [.long x201a, .long x201b])), (yl, .inr (2, [.long x201c, .long x201d])), (dv, .inr (0, [.ref q, .ref r, .ref d, .ref lm, .ref co])), (q, .inr (2, [.long x201e, .long x201f])), (r, .inr (2, [.long x201g, .long x201h])), (d, .inr (2, [.long x201i, .long x201j])), (lm, .inr (2, [.long x201k, .long x201l])), (co, .inr (2, [.long x201m, .long x201n]))] := hD
        refine lv_iconst (v := 1) hx hb dX3_meetOfOthers_204 (by decide) ?_
        exact hret hP hD hS rfl ((x163a, x163b), (x163c, x163d), (x201a, x201b), (x201c, x201d), (s2h, s2l), (f2h, f2l), (g2h, g2l), (x201e, x201f), (x201g, x201h), (x201i, x201j), (x201k, x201l), (x201m, x201n)) (⟨fun _ => ⟨rfl, hc163, hc201⟩, fun q => absurd ⟨by rw [← z2]; exact c_112.1, by rw [← z2, ← z1]; exact c_112.2, by rw [← z3]; exact c_123.1, by rw [← z3, ← z1]; exact c_123.2⟩ q⟩) [0, 1, 2, 3, 4, 10, 9, 5, 6, 11, 7, 8, 12, 13, 14, 15, 16, 17, 18, 19] rfl (by decide) dX3_meetOfOthers_205 (Nat.le_of_ble_eq_true rfl) (Nat.le_of_ble_eq_true rfl)
      · have c_123 := bz_0 c_123
        refine lv_iconst (v := 0) hx hb dX3_meetOfOthers_126 (by decide) ?_
        exact hret hP hD hS rfl ((uh, ul), (vh, vl), (ah, al), (bh, bl), (s2h, s2l), (f2h, f2l), (g2h, g2l), (qh, ql), (rh, rl), (dh, dl), (mh, ml), (ch, cl)) (⟨fun q => absurd q (fun q => c_123 ⟨by rw [z3]; exact q.2.2.1, by rw [z3, z1]; exact q.2.2.2⟩), fun _ => rfl⟩) [0, 1, 2, 3, 4, 5, 18, 19, 6, 7, 8, 9, 10, 11, 12, 13, 14, 15, 16, 17] rfl (by decide) dX3_meetOfOthers_127 (Nat.le_of_ble_eq_true rfl) (Nat.le_of_ble_eq_true rfl)
  refine lv_if_ge (tgt := 104) hx hb dX3_meetOfOthers_80 (by decide) (fun c_80 => ?_) (fun c_80 => ?_)
  · have c_80 := sg_get c_80
    refine J104 sh sl w48h w48l w70h w70l ?_ ?_ ?_ _ _ hP hD hS _ (lv_sub hl [2, 3, 4, 1, 0] rfl)
    · rw [hDen]; unfold nrm; rw [hDen] at c_80; rw [if_neg (by omega)]
    · rw [e48]; unfold nrm; rw [hDen] at c_80; rw [if_neg (by omega)]
    · rw [e70]; unfold nrm; rw [hDen] at c_80; rw [if_neg (by omega)]
  · have c_80 := sg_gef c_80
    refine lv_aload_n hx hb dX3_meetOfOthers_83 rfl (lv_at hl 2 rfl) ?_
    refine va_get (D := D) (ci := 3) (v := .ref sp) (C := RX3) (T := TX3) (N := 15) hx hb hTB tb_X3 hown hK.1 hP 0 rfl rfl 12 (by decide) (hTB _ tb_2_10) (fun _ h9 => h9) rfl dX3_meetOfOthers_84 ?_
    refine fin_v (wr := [(o, .inr (3, [.ref tl, .ref sx, .ref sy, .ref wx, .ref wy, .ref kx, .ref ky, .int cn, .int ph, .ref fx, .ref fy, .ref dv, .ref sp, .ref p1, .ref p2])), (sx, .inl (cJ, 16, .inr (.inl fsx))), (sy, .inl (cJ, 16, .inr (.inl fsy))), (wx, .inl (cJ, 16, .inr (.inl fwx))), (wy, .inl (cJ, 16, .inr (.inl fwy))), (fx, .inr (1, [.ref xu, .ref xl])), (fy, .inr (1, [.ref yu, .ref yl])), (xu, .inr (2, [.long uh, .long ul])), (xl, .inr (2, [.long vh, .long vl])), (yu, .inr (2, [.long ah, .long al])), (yl, .inr (2, [.long bh, .long bl])), (dv, .inr (0, [.ref q, .ref r, .ref d, .ref lm, .ref co])), (q, .inr (2, [.long qh, .long ql])), (r, .inr (2, [.long rh, .long rl])), (d, .inr (2, [.long dh, .long dl])), (lm, .inr (2, [.long mh, .long ml])), (co, .inr (2, [.long ch, .long cl])), (p1, .inr (2, [.long w48h, .long w48l])), (p2, .inr (2, [.long w70h, .long w70l]))]) (va_runV (As := []) (rest := []) ⟨hx, hb, hml, hown, hTB⟩ (c_X2_negate l D cZ cI cJ sp sh sl _) (cw_V hTB tb_9_14 tb_2_9 tb_9_11 tb_9_12 tb_9_13 nd_X2_negate rfl rfl ⟨Nat.le_of_ble_eq_true rfl, Nat.le_of_ble_eq_true rfl⟩) (pre_V (q0 := 5) hK hP hD [5] rfl rfl rfl rfl) rfl rfl hl.1 rfl (lv_room (Nat.le_of_ble_eq_true rfl)) dX3_meetOfOthers_87 ⟨Nat.le_of_ble_eq_true rfl, Nat.le_of_ble_eq_true rfl⟩) hP hD hS hA [5] [0, 1, 2, 3, 4, 6, 7, 8, 9, 10, 11, 12, 13, 14, 15, 16, 17, 18, 19] rfl rfl rfl (by decide) (fun u87 H locs hc87 hP hD hS => ?_)
    obtain ⟨w87h, w87l⟩ := u87
    try dsimp only at hc87
    have hP : va_P D vwCl [(o, .inr (3, [.ref tl, .ref sx, .ref sy, .ref wx, .ref wy, .ref kx, .ref ky, .int cn, .int ph, .ref fx, .ref fy, .ref dv, .ref sp, .ref p1, .ref p2])), (sx, .inl (cJ, 16, .inr (.inl fsx))), (sy, .inl (cJ, 16, .inr (.inl fsy))), (wx, .inl (cJ, 16, .inr (.inl fwx))), (wy, .inl (cJ, 16, .inr (.inl fwy))), (fx, .inr (1, [.ref xu, .ref xl])), (fy, .inr (1, [.ref yu, .ref yl])), (xu, .inr (2, [.long uh, .long ul])), (xl, .inr (2, [.long vh, .long vl])), (yu, .inr (2, [.long ah, .long al])), (yl, .inr (2, [.long bh, .long bl])), (dv, .inr (0, [.ref q, .ref r, .ref d, .ref lm, .ref co])), (q, .inr (2, [.long qh, .long ql])), (r, .inr (2, [.long rh, .long rl])), (d, .inr (2, [.long dh, .long dl])), (lm, .inr (2, [.long mh, .long ml])), (co, .inr (2, [.long ch, .long cl])), (p1, .inr (2, [.long w48h, .long w48l])), (p2, .inr (2, [.long w70h, .long w70l])), (sp, .inr (2, [.long w87h, .long w87l]))] H := hP
    have hD : va_D A [(o, .inr (3, [.ref tl, .ref sx, .ref sy, .ref wx, .ref wy, .ref kx, .ref ky, .int cn, .int ph, .ref fx, .ref fy, .ref dv, .ref sp, .ref p1, .ref p2])), (sx, .inl (cJ, 16, .inr (.inl fsx))), (sy, .inl (cJ, 16, .inr (.inl fsy))), (wx, .inl (cJ, 16, .inr (.inl fwx))), (wy, .inl (cJ, 16, .inr (.inl fwy))), (fx, .inr (1, [.ref xu, .ref xl])), (fy, .inr (1, [.ref yu, .ref yl])), (xu, .inr (2, [.long uh, .long ul])), (xl, .inr (2, [.long vh, .long vl])), (yu, .inr (2, [.long ah, .long al])), (yl, .inr (2, [.long bh, .long bl])), (dv, .inr (0, [.ref q, .ref r, .ref d, .ref lm, .ref co])), (q, .inr (2, [.long qh, .long ql])), (r, .inr (2, [.long rh, .long rl])), (d, .inr (2, [.long dh, .long dl])), (lm, .inr (2, [.long mh, .long ml])), (co, .inr (2, [.long ch, .long cl])), (p1, .inr (2, [.long w48h, .long w48l])), (p2, .inr (2, [.long w70h, .long w70l])), (sp, .inr (2, [.long w87h, .long w87l]))] := hD
    refine lv_aload_n hx hb dX3_meetOfOthers_90 rfl (lv_at hl 2 rfl) ?_
    refine va_get (D := D) (ci := 3) (v := .ref p1) (C := RX3) (T := TX3) (N := 15) hx hb hTB tb_X3 hown hK.1 hP 0 rfl rfl 13 (by decide) (hTB _ tb_2_11) (fun _ h9 => h9) rfl dX3_meetOfOthers_91 ?_
    refine fin_v (wr := [(o, .inr (3, [.ref tl, .ref sx, .ref sy, .ref wx, .ref wy, .ref kx, .ref ky, .int cn, .int ph, .ref fx, .ref fy, .ref dv, .ref sp, .ref p1, .ref p2])), (sx, .inl (cJ, 16, .inr (.inl fsx))), (sy, .inl (cJ, 16, .inr (.inl fsy))), (wx, .inl (cJ, 16, .inr (.inl fwx))), (wy, .inl (cJ, 16, .inr (.inl fwy))), (fx, .inr (1, [.ref xu, .ref xl])), (fy, .inr (1, [.ref yu, .ref yl])), (xu, .inr (2, [.long uh, .long ul])), (xl, .inr (2, [.long vh, .long vl])), (yu, .inr (2, [.long ah, .long al])), (yl, .inr (2, [.long bh, .long bl])), (dv, .inr (0, [.ref q, .ref r, .ref d, .ref lm, .ref co])), (q, .inr (2, [.long qh, .long ql])), (r, .inr (2, [.long rh, .long rl])), (d, .inr (2, [.long dh, .long dl])), (lm, .inr (2, [.long mh, .long ml])), (co, .inr (2, [.long ch, .long cl])), (p2, .inr (2, [.long w70h, .long w70l])), (sp, .inr (2, [.long w87h, .long w87l]))]) (va_runV (As := []) (rest := []) ⟨hx, hb, hml, hown, hTB⟩ (c_X2_negate l D cZ cI cJ p1 w48h w48l _) (cw_V hTB tb_9_14 tb_2_9 tb_9_11 tb_9_12 tb_9_13 nd_X2_negate rfl rfl ⟨Nat.le_of_ble_eq_true rfl, Nat.le_of_ble_eq_true rfl⟩) (pre_V (q0 := 17) hK hP hD [17] rfl rfl rfl rfl) rfl rfl hl.1 rfl (lv_room (Nat.le_of_ble_eq_true rfl)) dX3_meetOfOthers_94 ⟨Nat.le_of_ble_eq_true rfl, Nat.le_of_ble_eq_true rfl⟩) hP hD hS hA [17] [0, 1, 2, 3, 4, 5, 6, 7, 8, 9, 10, 11, 12, 13, 14, 15, 16, 18, 19] rfl rfl rfl (by decide) (fun u94 H locs hc94 hP hD hS => ?_)
    obtain ⟨w94h, w94l⟩ := u94
    try dsimp only at hc94
    have hP : va_P D vwCl [(o, .inr (3, [.ref tl, .ref sx, .ref sy, .ref wx, .ref wy, .ref kx, .ref ky, .int cn, .int ph, .ref fx, .ref fy, .ref dv, .ref sp, .ref p1, .ref p2])), (sx, .inl (cJ, 16, .inr (.inl fsx))), (sy, .inl (cJ, 16, .inr (.inl fsy))), (wx, .inl (cJ, 16, .inr (.inl fwx))), (wy, .inl (cJ, 16, .inr (.inl fwy))), (fx, .inr (1, [.ref xu, .ref xl])), (fy, .inr (1, [.ref yu, .ref yl])), (xu, .inr (2, [.long uh, .long ul])), (xl, .inr (2, [.long vh, .long vl])), (yu, .inr (2, [.long ah, .long al])), (yl, .inr (2, [.long bh, .long bl])), (dv, .inr (0, [.ref q, .ref r, .ref d, .ref lm, .ref co])), (q, .inr (2, [.long qh, .long ql])), (r, .inr (2, [.long rh, .long rl])), (d, .inr (2, [.long dh, .long dl])), (lm, .inr (2, [.long mh, .long ml])), (co, .inr (2, [.long ch, .long cl])), (p2, .inr (2, [.long w70h, .long w70l])), (sp, .inr (2, [.long w87h, .long w87l])), (p1, .inr (2, [.long w94h, .long w94l]))] H := hP
    have hD : va_D A [(o, .inr (3, [.ref tl, .ref sx, .ref sy, .ref wx, .ref wy, .ref kx, .ref ky, .int cn, .int ph, .ref fx, .ref fy, .ref dv, .ref sp, .ref p1, .ref p2])), (sx, .inl (cJ, 16, .inr (.inl fsx))), (sy, .inl (cJ, 16, .inr (.inl fsy))), (wx, .inl (cJ, 16, .inr (.inl fwx))), (wy, .inl (cJ, 16, .inr (.inl fwy))), (fx, .inr (1, [.ref xu, .ref xl])), (fy, .inr (1, [.ref yu, .ref yl])), (xu, .inr (2, [.long uh, .long ul])), (xl, .inr (2, [.long vh, .long vl])), (yu, .inr (2, [.long ah, .long al])), (yl, .inr (2, [.long bh, .long bl])), (dv, .inr (0, [.ref q, .ref r, .ref d, .ref lm, .ref co])), (q, .inr (2, [.long qh, .long ql])), (r, .inr (2, [.long rh, .long rl])), (d, .inr (2, [.long dh, .long dl])), (lm, .inr (2, [.long mh, .long ml])), (co, .inr (2, [.long ch, .long cl])), (p2, .inr (2, [.long w70h, .long w70l])), (sp, .inr (2, [.long w87h, .long w87l])), (p1, .inr (2, [.long w94h, .long w94l]))] := hD
    refine lv_aload_n hx hb dX3_meetOfOthers_97 rfl (lv_at hl 2 rfl) ?_
    refine va_get (D := D) (ci := 3) (v := .ref p2) (C := RX3) (T := TX3) (N := 15) hx hb hTB tb_X3 hown hK.1 hP 0 rfl rfl 14 (by decide) (hTB _ tb_2_12) (fun _ h9 => h9) rfl dX3_meetOfOthers_98 ?_
    refine fin_v (wr := [(o, .inr (3, [.ref tl, .ref sx, .ref sy, .ref wx, .ref wy, .ref kx, .ref ky, .int cn, .int ph, .ref fx, .ref fy, .ref dv, .ref sp, .ref p1, .ref p2])), (sx, .inl (cJ, 16, .inr (.inl fsx))), (sy, .inl (cJ, 16, .inr (.inl fsy))), (wx, .inl (cJ, 16, .inr (.inl fwx))), (wy, .inl (cJ, 16, .inr (.inl fwy))), (fx, .inr (1, [.ref xu, .ref xl])), (fy, .inr (1, [.ref yu, .ref yl])), (xu, .inr (2, [.long uh, .long ul])), (xl, .inr (2, [.long vh, .long vl])), (yu, .inr (2, [.long ah, .long al])), (yl, .inr (2, [.long bh, .long bl])), (dv, .inr (0, [.ref q, .ref r, .ref d, .ref lm, .ref co])), (q, .inr (2, [.long qh, .long ql])), (r, .inr (2, [.long rh, .long rl])), (d, .inr (2, [.long dh, .long dl])), (lm, .inr (2, [.long mh, .long ml])), (co, .inr (2, [.long ch, .long cl])), (sp, .inr (2, [.long w87h, .long w87l])), (p1, .inr (2, [.long w94h, .long w94l]))]) (va_runV (As := []) (rest := []) ⟨hx, hb, hml, hown, hTB⟩ (c_X2_negate l D cZ cI cJ p2 w70h w70l _) (cw_V hTB tb_9_14 tb_2_9 tb_9_11 tb_9_12 tb_9_13 nd_X2_negate rfl rfl ⟨Nat.le_of_ble_eq_true rfl, Nat.le_of_ble_eq_true rfl⟩) (pre_V (q0 := 17) hK hP hD [17] rfl rfl rfl rfl) rfl rfl hl.1 rfl (lv_room (Nat.le_of_ble_eq_true rfl)) dX3_meetOfOthers_101 ⟨Nat.le_of_ble_eq_true rfl, Nat.le_of_ble_eq_true rfl⟩) hP hD hS hA [17] [0, 1, 2, 3, 4, 5, 6, 7, 8, 9, 10, 11, 12, 13, 14, 15, 16, 18, 19] rfl rfl rfl (by decide) (fun u101 H locs hc101 hP hD hS => ?_)
    obtain ⟨w101h, w101l⟩ := u101
    try dsimp only at hc101
    have hP : va_P D vwCl [(o, .inr (3, [.ref tl, .ref sx, .ref sy, .ref wx, .ref wy, .ref kx, .ref ky, .int cn, .int ph, .ref fx, .ref fy, .ref dv, .ref sp, .ref p1, .ref p2])), (sx, .inl (cJ, 16, .inr (.inl fsx))), (sy, .inl (cJ, 16, .inr (.inl fsy))), (wx, .inl (cJ, 16, .inr (.inl fwx))), (wy, .inl (cJ, 16, .inr (.inl fwy))), (fx, .inr (1, [.ref xu, .ref xl])), (fy, .inr (1, [.ref yu, .ref yl])), (xu, .inr (2, [.long uh, .long ul])), (xl, .inr (2, [.long vh, .long vl])), (yu, .inr (2, [.long ah, .long al])), (yl, .inr (2, [.long bh, .long bl])), (dv, .inr (0, [.ref q, .ref r, .ref d, .ref lm, .ref co])), (q, .inr (2, [.long qh, .long ql])), (r, .inr (2, [.long rh, .long rl])), (d, .inr (2, [.long dh, .long dl])), (lm, .inr (2, [.long mh, .long ml])), (co, .inr (2, [.long ch, .long cl])), (sp, .inr (2, [.long w87h, .long w87l])), (p1, .inr (2, [.long w94h, .long w94l])), (p2, .inr (2, [.long w101h, .long w101l]))] H := hP
    have hD : va_D A [(o, .inr (3, [.ref tl, .ref sx, .ref sy, .ref wx, .ref wy, .ref kx, .ref ky, .int cn, .int ph, .ref fx, .ref fy, .ref dv, .ref sp, .ref p1, .ref p2])), (sx, .inl (cJ, 16, .inr (.inl fsx))), (sy, .inl (cJ, 16, .inr (.inl fsy))), (wx, .inl (cJ, 16, .inr (.inl fwx))), (wy, .inl (cJ, 16, .inr (.inl fwy))), (fx, .inr (1, [.ref xu, .ref xl])), (fy, .inr (1, [.ref yu, .ref yl])), (xu, .inr (2, [.long uh, .long ul])), (xl, .inr (2, [.long vh, .long vl])), (yu, .inr (2, [.long ah, .long al])), (yl, .inr (2, [.long bh, .long bl])), (dv, .inr (0, [.ref q, .ref r, .ref d, .ref lm, .ref co])), (q, .inr (2, [.long qh, .long ql])), (r, .inr (2, [.long rh, .long rl])), (d, .inr (2, [.long dh, .long dl])), (lm, .inr (2, [.long mh, .long ml])), (co, .inr (2, [.long ch, .long cl])), (sp, .inr (2, [.long w87h, .long w87l])), (p1, .inr (2, [.long w94h, .long w94l])), (p2, .inr (2, [.long w101h, .long w101l]))] := hD
    refine J104 w87h w87l w94h w94l w101h w101l ?_ ?_ ?_ _ _ (hP.sub [0, 1, 2, 3, 4, 17, 5, 6, 7, 8, 9, 10, 11, 12, 13, 14, 15, 16, 18, 19] rfl) (hD.sub [0, 1, 2, 3, 4, 17, 5, 6, 7, 8, 9, 10, 11, 12, 13, 14, 15, 16, 18, 19] (by decide) rfl) hS _ (lv_sub hl [2, 3, 4, 1, 0] rfl)
    · rw [hDen] at c_80; rw [hc87 (by rw [hDen]; unfold In; omega), hDen]; unfold nrm; rw [if_pos c_80]
    · rw [hDen] at c_80; rw [hc94 (by rw [e48]; unfold In; omega), e48]; unfold nrm; rw [if_pos c_80]
    · rw [hDen] at c_80; rw [hc101 (by rw [e70]; unfold In; omega), e70]; unfold nrm; rw [if_pos c_80]

set_option maxHeartbeats 4000000 in
set_option maxRecDepth 100000 in
theorem c_X3_meetOfParallels (l : Launch) (D : va_G) (cZ cI cJ : ClassId) (o tl sx sy wx wy kx ky fx fy dv sp p1 p2 : Nat) (cn ph : Int32) (fsx fsy fwx fwy : Nat → Int64) (a b : Int32) (sh sl : Int64) (xu xl yu yl : Nat) (uh ul vh vl ah al bh bl : Int64) (hina : inr a 16) (hinb : inr b 16) (hsa : ogr (fsx (a.toNatClampNeg)) (fsy (a.toNatClampNeg))) (hsb : ogr (fsx (b.toNatClampNeg)) (fsy (b.toNatClampNeg))) (hwa : wbd (fwx (a.toNatClampNeg)) (fwy (a.toNatClampNeg))) (hwb : wbd (fwx (b.toNatClampNeg)) (fwy (b.toNatClampNeg))) : Ci l D cZ cI cJ yX3_meetOfParallels cX3_meetOfParallels 17 (some .int) { frames := 5, cells := 0, slots := 0, locals := 127 } [.ref o, .int a, .int b] [(o, .inr (3, [.ref tl, .ref sx, .ref sy, .ref wx, .ref wy, .ref kx, .ref ky, .int cn, .int ph, .ref fx, .ref fy, .ref dv, .ref sp, .ref p1, .ref p2])), (sx, .inl (cJ, 16, .inr (.inl fsx))), (sy, .inl (cJ, 16, .inr (.inl fsy))), (wx, .inl (cJ, 16, .inr (.inl fwx))), (wy, .inl (cJ, 16, .inr (.inl fwy))), (sp, .inr (2, [.long sh, .long sl])), (fx, .inr (1, [.ref xu, .ref xl])), (fy, .inr (1, [.ref yu, .ref yl])), (xu, .inr (2, [.long uh, .long ul])), (xl, .inr (2, [.long vh, .long vl])), (yu, .inr (2, [.long ah, .long al])), (yl, .inr (2, [.long bh, .long bl]))] (S := (Int64 × Int64) × (Int64 × Int64) × (Int64 × Int64) × (Int64 × Int64) × (Int64 × Int64)) (fun z u => ((spn ((fsx (b.toNatClampNeg)).toInt - (fsx (a.toNatClampNeg)).toInt) ((fsy (b.toNatClampNeg)).toInt - (fsy (a.toNatClampNeg)).toInt) (fwx (a.toNatClampNeg)).toInt (fwy (a.toNatClampNeg)).toInt) ≠ 0 → z = 0) ∧ ((spn ((fsx (b.toNatClampNeg)).toInt - (fsx (a.toNatClampNeg)).toInt) ((fsy (b.toNatClampNeg)).toInt - (fsy (a.toNatClampNeg)).toInt) (fwx (a.toNatClampNeg)).toInt (fwy (a.toNatClampNeg)).toInt) = 0 → z = ovA (fsx (a.toNatClampNeg)).toInt (fsy (a.toNatClampNeg)).toInt (fwx (a.toNatClampNeg)).toInt (fwy (a.toNatClampNeg)).toInt (fsx (b.toNatClampNeg)).toInt (fsy (b.toNatClampNeg)).toInt (fwx (b.toNatClampNeg)).toInt (fwy (b.toNatClampNeg)).toInt ∧ (z = 1 → FR (ovX (fsx (a.toNatClampNeg)).toInt (fsy (a.toNatClampNeg)).toInt (fwx (a.toNatClampNeg)).toInt (fwy (a.toNatClampNeg)).toInt (fsx (b.toNatClampNeg)).toInt (fsy (b.toNatClampNeg)).toInt (fwx (b.toNatClampNeg)).toInt (fwy (b.toNatClampNeg)).toInt) 1 (wv u.2.1.1 u.2.1.2) (wv u.2.2.1.1 u.2.2.1.2) ∧ FR (ovY (fsx (a.toNatClampNeg)).toInt (fsy (a.toNatClampNeg)).toInt (fwx (a.toNatClampNeg)).toInt (fwy (a.toNatClampNeg)).toInt (fsx (b.toNatClampNeg)).toInt (fsy (b.toNatClampNeg)).toInt (fwx (b.toNatClampNeg)).toInt (fwy (b.toNatClampNeg)).toInt) 1 (wv u.2.2.2.1.1 u.2.2.2.1.2) (wv u.2.2.2.2.1 u.2.2.2.2.2)))) (fun u => [(o, .inr (3, [.ref tl, .ref sx, .ref sy, .ref wx, .ref wy, .ref kx, .ref ky, .int cn, .int ph, .ref fx, .ref fy, .ref dv, .ref sp, .ref p1, .ref p2])), (sx, .inl (cJ, 16, .inr (.inl fsx))), (sy, .inl (cJ, 16, .inr (.inl fsy))), (wx, .inl (cJ, 16, .inr (.inl fwx))), (wy, .inl (cJ, 16, .inr (.inl fwy))), (sp, .inr (2, [.long u.1.1, .long u.1.2])), (fx, .inr (1, [.ref xu, .ref xl])), (fy, .inr (1, [.ref yu, .ref yl])), (xu, .inr (2, [.long u.2.1.1, .long u.2.1.2])), (xl, .inr (2, [.long u.2.2.1.1, .long u.2.2.1.2])), (yu, .inr (2, [.long u.2.2.2.1.1, .long u.2.2.2.1.2])), (yl, .inr (2, [.long u.2.2.2.2.1, .long u.2.2.2.2.2]))]) := by
  refine Ci.of (by decide) ?_
  intro p e s m args below meth c A Q hB hret hP hD hA
  obtain ⟨hx, hb, hr, hlocks, hml, hown, hnm, hTB, hK⟩ := hB
  have hown : s.vm.findClass RX3 = some m.cls := hown
  have hS : va_S A s.heap s.heap [] := va_S.rf
  have e1 : (fsx (b.toNatClampNeg) - fsx (a.toNatClampNeg)).toInt = ((fsx (b.toNatClampNeg)).toInt - (fsx (a.toNatClampNeg)).toInt) := sub_rng (by omega) (by omega)
  have e2 : (fsy (b.toNatClampNeg) - fsy (a.toNatClampNeg)).toInt = ((fsy (b.toNatClampNeg)).toInt - (fsy (a.toNatClampNeg)).toInt) := sub_rng (by omega) (by omega)
  have bs := spn_bd (a := ((fsx (b.toNatClampNeg)).toInt - (fsx (a.toNatClampNeg)).toInt)) (b := ((fsy (b.toNatClampNeg)).toInt - (fsy (a.toNatClampNeg)).toInt)) (c := (fwx (a.toNatClampNeg)).toInt) (d := (fwy (a.toNatClampNeg)).toInt) (X := 2199023255552) (Y := 2199023255552) (by omega) (by omega) (by omega) (by omega) (by omega) (by omega) (by omega) (by omega)
  have m2 := mul_bd (x := ((fsx (b.toNatClampNeg)).toInt - (fsx (a.toNatClampNeg)).toInt)) (y := (fwy (a.toNatClampNeg)).toInt) (X := 2199023255552) (Y := 2199023255552) (by omega) (by omega) (by omega) (by omega)
  have hl := lv_entry ([.ref o, .int a, .int b]) (n := 17) (Nat.le_of_ble_eq_true rfl)
  rw [lg_entry_eq]
  generalize (lg_sl ([.ref o, .int a, .int b]) ++ List.replicate (17 - (lg_sl ([.ref o, .int a, .int b])).length) Slot.unset).toArray = ls at hl ⊢
  have hl : lv_has ls 17 [(0, .ref o), (1, .int a), (2, .int b)] := hl
  refine lv_aload_n hx hb dX3_meetOfParallels_0 rfl (lv_at hl 0 rfl) ?_
  refine va_get (D := D) (ci := 3) (v := .ref sp) (C := RX3) (T := TX3) (N := 15) hx hb hTB tb_X3 hown hK.1 hP 0 rfl rfl 12 (by decide) (hTB _ tb_2_10) (fun _ h9 => h9) rfl dX3_meetOfParallels_1 ?_
  refine lv_aload_n hx hb dX3_meetOfParallels_4 rfl (lv_at hl 0 rfl) ?_
  refine va_get (D := D) (ci := 3) (v := .ref sx) (C := RX3) (T := TX3) (N := 15) hx hb hTB tb_X3 hown hK.1 hP 0 rfl rfl 1 (by decide) (hTB _ tb_1_16) (fun _ h9 => h9) rfl dX3_meetOfParallels_5 ?_
  refine lv_iload_n hx hb dX3_meetOfParallels_8 rfl (lv_at hl 2 rfl) ?_
  refine va_lald (f := fsx) hx hb hK.1 hP 1 2 rfl rfl (vp_in_iff.mpr ⟨by omega, by omega⟩) dX3_meetOfParallels_9 ?_
  refine lv_aload_n hx hb dX3_meetOfParallels_10 rfl (lv_at hl 0 rfl) ?_
  refine va_get (D := D) (ci := 3) (v := .ref sx) (C := RX3) (T := TX3) (N := 15) hx hb hTB tb_X3 hown hK.1 hP 0 rfl rfl 1 (by decide) (hTB _ tb_1_16) (fun _ h9 => h9) rfl dX3_meetOfParallels_11 ?_
  refine lv_iload_n hx hb dX3_meetOfParallels_14 rfl (lv_at hl 1 rfl) ?_
  refine va_lald (f := fsx) hx hb hK.1 hP 1 2 rfl rfl (vp_in_iff.mpr ⟨by omega, by omega⟩) dX3_meetOfParallels_15 ?_
  refine lv_lsub hx hb dX3_meetOfParallels_16 ?_
  refine lv_aload_n hx hb dX3_meetOfParallels_17 rfl (lv_at hl 0 rfl) ?_
  refine va_get (D := D) (ci := 3) (v := .ref sy) (C := RX3) (T := TX3) (N := 15) hx hb hTB tb_X3 hown hK.1 hP 0 rfl rfl 2 (by decide) (hTB _ tb_1_17) (fun _ h9 => h9) rfl dX3_meetOfParallels_18 ?_
  refine lv_iload_n hx hb dX3_meetOfParallels_21 rfl (lv_at hl 2 rfl) ?_
  refine va_lald (f := fsy) hx hb hK.1 hP 2 2 rfl rfl (vp_in_iff.mpr ⟨by omega, by omega⟩) dX3_meetOfParallels_22 ?_
  refine lv_aload_n hx hb dX3_meetOfParallels_23 rfl (lv_at hl 0 rfl) ?_
  refine va_get (D := D) (ci := 3) (v := .ref sy) (C := RX3) (T := TX3) (N := 15) hx hb hTB tb_X3 hown hK.1 hP 0 rfl rfl 2 (by decide) (hTB _ tb_1_17) (fun _ h9 => h9) rfl dX3_meetOfParallels_24 ?_
  refine lv_iload_n hx hb dX3_meetOfParallels_27 rfl (lv_at hl 1 rfl) ?_
  refine va_lald (f := fsy) hx hb hK.1 hP 2 2 rfl rfl (vp_in_iff.mpr ⟨by omega, by omega⟩) dX3_meetOfParallels_28 ?_
  refine lv_lsub hx hb dX3_meetOfParallels_29 ?_
  refine lv_aload_n hx hb dX3_meetOfParallels_30 rfl (lv_at hl 0 rfl) ?_
  refine va_get (D := D) (ci := 3) (v := .ref wx) (C := RX3) (T := TX3) (N := 15) hx hb hTB tb_X3 hown hK.1 hP 0 rfl rfl 3 (by decide) (hTB _ tb_1_18) (fun _ h9 => h9) rfl dX3_meetOfParallels_31 ?_
  refine lv_iload_n hx hb dX3_meetOfParallels_34 rfl (lv_at hl 1 rfl) ?_
  refine va_lald (f := fwx) hx hb hK.1 hP 3 2 rfl rfl (vp_in_iff.mpr ⟨by omega, by omega⟩) dX3_meetOfParallels_35 ?_
  refine lv_aload_n hx hb dX3_meetOfParallels_36 rfl (lv_at hl 0 rfl) ?_
  refine va_get (D := D) (ci := 3) (v := .ref wy) (C := RX3) (T := TX3) (N := 15) hx hb hTB tb_X3 hown hK.1 hP 0 rfl rfl 4 (by decide) (hTB _ tb_1_19) (fun _ h9 => h9) rfl dX3_meetOfParallels_37 ?_
  refine lv_iload_n hx hb dX3_meetOfParallels_40 rfl (lv_at hl 1 rfl) ?_
  refine va_lald (f := fwy) hx hb hK.1 hP 4 2 rfl rfl (vp_in_iff.mpr ⟨by omega, by omega⟩) dX3_meetOfParallels_41 ?_
  refine fin_v (wr := [(o, .inr (3, [.ref tl, .ref sx, .ref sy, .ref wx, .ref wy, .ref kx, .ref ky, .int cn, .int ph, .ref fx, .ref fy, .ref dv, .ref sp, .ref p1, .ref p2])), (sx, .inl (cJ, 16, .inr (.inl fsx))), (sy, .inl (cJ, 16, .inr (.inl fsy))), (wx, .inl (cJ, 16, .inr (.inl fwx))), (wy, .inl (cJ, 16, .inr (.inl fwy))), (fx, .inr (1, [.ref xu, .ref xl])), (fy, .inr (1, [.ref yu, .ref yl])), (xu, .inr (2, [.long uh, .long ul])), (xl, .inr (2, [.long vh, .long vl])), (yu, .inr (2, [.long ah, .long al])), (yl, .inr (2, [.long bh, .long bl]))]) (va_runV (As := [.long ((fsx (b.toNatClampNeg)) - (fsx (a.toNatClampNeg))), .long ((fsy (b.toNatClampNeg)) - (fsy (a.toNatClampNeg))), .long (fwx (a.toNatClampNeg)), .long (fwy (a.toNatClampNeg))]) (rest := []) ⟨hx, hb, hml, hown, hTB⟩ (c_X2_putSpan l D cZ cI cJ sp sh sl ((fsx (b.toNatClampNeg)) - (fsx (a.toNatClampNeg))) ((fsy (b.toNatClampNeg)) - (fsy (a.toNatClampNeg))) (fwx (a.toNatClampNeg)) (fwy (a.toNatClampNeg)) _) (cw_V hTB tb_4_16 tb_2_9 tb_4_13 tb_4_14 tb_4_15 nd_X2_putSpan rfl rfl ⟨Nat.le_of_ble_eq_true rfl, Nat.le_of_ble_eq_true rfl⟩) (pre_V (q0 := 5) hK hP hD [5] rfl rfl rfl rfl) rfl rfl hl.1 rfl (lv_room (Nat.le_of_ble_eq_true rfl)) dX3_meetOfParallels_42 ⟨Nat.le_of_ble_eq_true rfl, Nat.le_of_ble_eq_true rfl⟩) hP hD hS hA [5] [0, 1, 2, 3, 4, 6, 7, 8, 9, 10, 11] rfl rfl rfl (by decide) (fun u42 H locs hc42 hP hD hS => ?_)
  obtain ⟨w42h, w42l⟩ := u42
  try dsimp only at hc42
  have hP : va_P D vwCl [(o, .inr (3, [.ref tl, .ref sx, .ref sy, .ref wx, .ref wy, .ref kx, .ref ky, .int cn, .int ph, .ref fx, .ref fy, .ref dv, .ref sp, .ref p1, .ref p2])), (sx, .inl (cJ, 16, .inr (.inl fsx))), (sy, .inl (cJ, 16, .inr (.inl fsy))), (wx, .inl (cJ, 16, .inr (.inl fwx))), (wy, .inl (cJ, 16, .inr (.inl fwy))), (fx, .inr (1, [.ref xu, .ref xl])), (fy, .inr (1, [.ref yu, .ref yl])), (xu, .inr (2, [.long uh, .long ul])), (xl, .inr (2, [.long vh, .long vl])), (yu, .inr (2, [.long ah, .long al])), (yl, .inr (2, [.long bh, .long bl])), (sp, .inr (2, [.long w42h, .long w42l]))] H := hP
  have hD : va_D A [(o, .inr (3, [.ref tl, .ref sx, .ref sy, .ref wx, .ref wy, .ref kx, .ref ky, .int cn, .int ph, .ref fx, .ref fy, .ref dv, .ref sp, .ref p1, .ref p2])), (sx, .inl (cJ, 16, .inr (.inl fsx))), (sy, .inl (cJ, 16, .inr (.inl fsy))), (wx, .inl (cJ, 16, .inr (.inl fwx))), (wy, .inl (cJ, 16, .inr (.inl fwy))), (fx, .inr (1, [.ref xu, .ref xl])), (fy, .inr (1, [.ref yu, .ref yl])), (xu, .inr (2, [.long uh, .long ul])), (xl, .inr (2, [.long vh, .long vl])), (yu, .inr (2, [.long ah, .long al])), (yl, .inr (2, [.long bh, .long bl])), (sp, .inr (2, [.long w42h, .long w42l]))] := hD
  have e42 : wv w42h w42l = (spn ((fsx (b.toNatClampNeg)).toInt - (fsx (a.toNatClampNeg)).toInt) ((fsy (b.toNatClampNeg)).toInt - (fsy (a.toNatClampNeg)).toInt) (fwx (a.toNatClampNeg)).toInt (fwy (a.toNatClampNeg)).toInt) := by
    unfold spn
    rw [hc42 (by rw [e2]; omega) (by rw [e1]; unfold In; omega) (by rw [e1, e2]; unfold spn at bs; unfold In; omega), e1, e2]
  refine lv_aload_n hx hb dX3_meetOfParallels_45 rfl (lv_at hl 0 rfl) ?_
  refine va_get (D := D) (ci := 3) (v := .ref sp) (C := RX3) (T := TX3) (N := 15) hx hb hTB tb_X3 hown hK.1 hP 0 rfl rfl 12 (by decide) (hTB _ tb_2_10) (fun _ h9 => h9) rfl dX3_meetOfParallels_46 ?_
  refine vp_callSi (va_runV (As := []) (rest := []) ⟨hx, hb, hml, hown, hTB⟩ (c_X2_sign l D cZ cI cJ sp w42h w42l) (cw_V hTB tb_5_23 tb_2_9 tb_5_20 tb_5_21 tb_5_22 nd_X2_sign rfl rfl ⟨Nat.le_of_ble_eq_true rfl, Nat.le_of_ble_eq_true rfl⟩) (prr_V (q0 := 11) hK hP [11] rfl rfl rfl) rfl rfl hl.1 rfl (lv_room (Nat.le_of_ble_eq_true rfl)) dX3_meetOfParallels_49 ⟨Nat.le_of_ble_eq_true rfl, Nat.le_of_ble_eq_true rfl⟩).run (fun r49 hc49 => ?_)
  subst hc49
  refine lv_if_eq (tgt := 57) hx hb dX3_meetOfParallels_52 (by decide) (fun c_52 => ?_) (fun c_52 => ?_)
  · have c_52 := sg_eqt c_52
    refine lv_aload_n hx hb dX3_meetOfParallels_57 rfl (lv_at hl 0 rfl) ?_
    refine va_get (D := D) (ci := 3) (v := .ref wx) (C := RX3) (T := TX3) (N := 15) hx hb hTB tb_X3 hown hK.1 hP 0 rfl rfl 3 (by decide) (hTB _ tb_1_18) (fun _ h9 => h9) rfl dX3_meetOfParallels_58 ?_
    refine lv_iload_n hx hb dX3_meetOfParallels_61 rfl (lv_at hl 1 rfl) ?_
    refine va_lald (f := fwx) hx hb hK.1 hP 3 2 rfl rfl (vp_in_iff.mpr ⟨by omega, by omega⟩) dX3_meetOfParallels_62 ?_
    refine lv_lconst (v := 0) hx hb dX3_meetOfParallels_63 (by decide) ?_
    refine W.lcmp hx hb dX3_meetOfParallels_64 ?_
    refine lv_if_eq (tgt := 72) hx hb dX3_meetOfParallels_65 (by decide) (fun c_65 => ?_) (fun c_65 => ?_)
    · have c_65 : (fwx (a.toNatClampNeg)).toInt = (0 : Int) := lc_eq c_65
      refine lv_iconst (v := 0) hx hb dX3_meetOfParallels_72 (by decide) ?_
      refine lv_istore_n (lv' := [(3, .int 0), (0, .ref o), (1, .int a), (2, .int b)]) hx hb dX3_meetOfParallels_73 rfl hl (by decide) rfl (fun ls hl => ?_)
      refine lv_iload_n hx hb dX3_meetOfParallels_74 rfl (lv_at hl 0 rfl) ?_
      refine lv_if_eq (tgt := 87) hx hb dX3_meetOfParallels_75 (by decide) (fun c_75 => ?_) (fun c_75 => absurd c_75 (by decide))
      refine lv_aload_n hx hb dX3_meetOfParallels_87 rfl (lv_at hl 1 rfl) ?_
      refine va_get (D := D) (ci := 3) (v := .ref sy) (C := RX3) (T := TX3) (N := 15) hx hb hTB tb_X3 hown hK.1 hP 0 rfl rfl 2 (by decide) (hTB _ tb_1_17) (fun _ h9 => h9) rfl dX3_meetOfParallels_88 ?_
      refine lv_iload_n hx hb dX3_meetOfParallels_91 rfl (lv_at hl 2 rfl) ?_
      refine va_lald (f := fsy) hx hb hK.1 hP 2 2 rfl rfl (vp_in_iff.mpr ⟨by omega, by omega⟩) dX3_meetOfParallels_92 ?_
      refine lv_lstore (lv' := [(4, .long (fsy (a.toNatClampNeg))), (3, .int 0), (0, .ref o), (1, .int a), (2, .int b)]) hx hb dX3_meetOfParallels_93 hl (by decide) rfl (fun ls hl => ?_)
      refine lv_lload hx hb dX3_meetOfParallels_95 (lv_at hl 0 rfl) ?_
      refine lv_iload_n hx hb dX3_meetOfParallels_97 rfl (lv_at hl 1 rfl) ?_
      refine lv_if_eq (tgt := 110) hx hb dX3_meetOfParallels_98 (by decide) (fun c_98 => ?_) (fun c_98 => absurd c_98 (by decide))
      refine lv_aload_n hx hb dX3_meetOfParallels_110 rfl (lv_at hl 2 rfl) ?_
      refine va_get (D := D) (ci := 3) (v := .ref wy) (C := RX3) (T := TX3) (N := 15) hx hb hTB tb_X3 hown hK.1 hP 0 rfl rfl 4 (by decide) (hTB _ tb_1_19) (fun _ h9 => h9) rfl dX3_meetOfParallels_111 ?_
      refine lv_iload_n hx hb dX3_meetOfParallels_114 rfl (lv_at hl 3 rfl) ?_
      refine va_lald (f := fwy) hx hb hK.1 hP 4 2 rfl rfl (vp_in_iff.mpr ⟨by omega, by omega⟩) dX3_meetOfParallels_115 ?_
      refine lv_ladd hx hb dX3_meetOfParallels_116 ?_
      refine lv_lstore (lv' := [(6, .long ((fsy (a.toNatClampNeg)) + (fwy (a.toNatClampNeg)))), (4, .long (fsy (a.toNatClampNeg))), (3, .int 0), (0, .ref o), (1, .int a), (2, .int b)]) hx hb dX3_meetOfParallels_117 hl (by decide) rfl (fun ls hl => ?_)
      refine lv_iload_n hx hb dX3_meetOfParallels_119 rfl (lv_at hl 2 rfl) ?_
      refine lv_if_eq (tgt := 132) hx hb dX3_meetOfParallels_120 (by decide) (fun c_120 => ?_) (fun c_120 => absurd c_120 (by decide))
      refine lv_aload_n hx hb dX3_meetOfParallels_132 rfl (lv_at hl 3 rfl) ?_
      refine va_get (D := D) (ci := 3) (v := .ref sy) (C := RX3) (T := TX3) (N := 15) hx hb hTB tb_X3 hown hK.1 hP 0 rfl rfl 2 (by decide) (hTB _ tb_1_17) (fun _ h9 => h9) rfl dX3_meetOfParallels_133 ?_
      refine lv_iload_n hx hb dX3_meetOfParallels_136 rfl (lv_at hl 5 rfl) ?_
      refine va_lald (f := fsy) hx hb hK.1 hP 2 2 rfl rfl (vp_in_iff.mpr ⟨by omega, by omega⟩) dX3_meetOfParallels_137 ?_
      refine lv_lstore (lv' := [(8, .long (fsy (b.toNatClampNeg))), (6, .long ((fsy (a.toNatClampNeg)) + (fwy (a.toNatClampNeg)))), (4, .long (fsy (a.toNatClampNeg))), (3, .int 0), (0, .ref o), (1, .int a), (2, .int b)]) hx hb dX3_meetOfParallels_138 hl (by decide) rfl (fun ls hl => ?_)
      refine lv_lload hx hb dX3_meetOfParallels_140 (lv_at hl 0 rfl) ?_
      refine lv_iload_n hx hb dX3_meetOfParallels_142 rfl (lv_at hl 3 rfl) ?_
      refine lv_if_eq (tgt := 155) hx hb dX3_meetOfParallels_143 (by decide) (fun c_143 => ?_) (fun c_143 => absurd c_143 (by decide))
      refine lv_aload_n hx hb dX3_meetOfParallels_155 rfl (lv_at hl 4 rfl) ?_
      refine va_get (D := D) (ci := 3) (v := .ref wy) (C := RX3) (T := TX3) (N := 15) hx hb hTB tb_X3 hown hK.1 hP 0 rfl rfl 4 (by decide) (hTB _ tb_1_19) (fun _ h9 => h9) rfl dX3_meetOfParallels_156 ?_
      refine lv_iload_n hx hb dX3_meetOfParallels_159 rfl (lv_at hl 6 rfl) ?_
      refine va_lald (f := fwy) hx hb hK.1 hP 4 2 rfl rfl (vp_in_iff.mpr ⟨by omega, by omega⟩) dX3_meetOfParallels_160 ?_
      refine lv_ladd hx hb dX3_meetOfParallels_161 ?_
      refine lv_lstore (lv' := [(10, .long ((fsy (b.toNatClampNeg)) + (fwy (b.toNatClampNeg)))), (8, .long (fsy (b.toNatClampNeg))), (6, .long ((fsy (a.toNatClampNeg)) + (fwy (a.toNatClampNeg)))), (4, .long (fsy (a.toNatClampNeg))), (3, .int 0), (0, .ref o), (1, .int a), (2, .int b)]) hx hb dX3_meetOfParallels_162 hl (by decide) rfl (fun ls hl => ?_)
      refine lv_lload hx hb dX3_meetOfParallels_164 (lv_at hl 3 rfl) ?_
      refine lv_lload hx hb dX3_meetOfParallels_166 (lv_at hl 2 rfl) ?_
      refine va_mmin_long hx hb (hml.trans hl.1.symm) hown (hTB _ tb_8_19) (hTB _ tb_8_20) (hTB _ tb_8_21) (hTB _ tb_8_22) (Nat.le_of_ble_eq_true rfl) (Nat.le_of_ble_eq_true rfl) (Nat.zero_le _) (Nat.zero_le _) dX3_meetOfParallels_168 ?_
      refine lv_lload hx hb dX3_meetOfParallels_171 (lv_at hl 1 rfl) ?_
      refine lv_lload hx hb dX3_meetOfParallels_173 (lv_at hl 0 rfl) ?_
      refine va_mmin_long hx hb (hml.trans hl.1.symm) hown (hTB _ tb_8_19) (hTB _ tb_8_20) (hTB _ tb_8_21) (hTB _ tb_8_22) (Nat.le_of_ble_eq_true rfl) (Nat.le_of_ble_eq_true rfl) (Nat.zero_le _) (Nat.zero_le _) dX3_meetOfParallels_175 ?_
      refine va_mmax_long hx hb (hml.trans hl.1.symm) hown (hTB _ tb_8_23) (hTB _ tb_9_0) (hTB _ tb_8_21) (hTB _ tb_9_1) (Nat.le_of_ble_eq_true rfl) (Nat.le_of_ble_eq_true rfl) (Nat.zero_le _) (Nat.zero_le _) dX3_meetOfParallels_178 ?_
      refine lv_topl (fun lo9 elo9 => ?_)
      refine lv_lstore (lv' := [(12, .long lo9), (10, .long ((fsy (b.toNatClampNeg)) + (fwy (b.toNatClampNeg)))), (8, .long (fsy (b.toNatClampNeg))), (6, .long ((fsy (a.toNatClampNeg)) + (fwy (a.toNatClampNeg)))), (4, .long (fsy (a.toNatClampNeg))), (3, .int 0), (0, .ref o), (1, .int a), (2, .int b)]) hx hb dX3_meetOfParallels_181 hl (by decide) rfl (fun ls hl => ?_)
      refine lv_lload hx hb dX3_meetOfParallels_183 (lv_at hl 4 rfl) ?_
      refine lv_lload hx hb dX3_meetOfParallels_185 (lv_at hl 3 rfl) ?_
      refine va_mmax_long hx hb (hml.trans hl.1.symm) hown (hTB _ tb_8_23) (hTB _ tb_9_0) (hTB _ tb_8_21) (hTB _ tb_9_1) (Nat.le_of_ble_eq_true rfl) (Nat.le_of_ble_eq_true rfl) (Nat.zero_le _) (Nat.zero_le _) dX3_meetOfParallels_187 ?_
      refine lv_lload hx hb dX3_meetOfParallels_190 (lv_at hl 2 rfl) ?_
      refine lv_lload hx hb dX3_meetOfParallels_192 (lv_at hl 1 rfl) ?_
      refine va_mmax_long hx hb (hml.trans hl.1.symm) hown (hTB _ tb_8_23) (hTB _ tb_9_0) (hTB _ tb_8_21) (hTB _ tb_9_1) (Nat.le_of_ble_eq_true rfl) (Nat.le_of_ble_eq_true rfl) (Nat.zero_le _) (Nat.zero_le _) dX3_meetOfParallels_194 ?_
      refine va_mmin_long hx hb (hml.trans hl.1.symm) hown (hTB _ tb_8_19) (hTB _ tb_8_20) (hTB _ tb_8_21) (hTB _ tb_8_22) (Nat.le_of_ble_eq_true rfl) (Nat.le_of_ble_eq_true rfl) (Nat.zero_le _) (Nat.zero_le _) dX3_meetOfParallels_197 ?_
      refine lv_topl (fun hi9 ehi9 => ?_)
      refine lv_lstore (lv' := [(14, .long hi9), (12, .long lo9), (10, .long ((fsy (b.toNatClampNeg)) + (fwy (b.toNatClampNeg)))), (8, .long (fsy (b.toNatClampNeg))), (6, .long ((fsy (a.toNatClampNeg)) + (fwy (a.toNatClampNeg)))), (4, .long (fsy (a.toNatClampNeg))), (3, .int 0), (0, .ref o), (1, .int a), (2, .int b)]) hx hb dX3_meetOfParallels_200 hl (by decide) rfl (fun ls hl => ?_)
      refine lv_lload hx hb dX3_meetOfParallels_202 (lv_at hl 1 rfl) ?_
      refine lv_lload hx hb dX3_meetOfParallels_204 (lv_at hl 0 rfl) ?_
      refine W.lcmp hx hb dX3_meetOfParallels_206 ?_
      refine lv_if_eq (tgt := 224) hx hb dX3_meetOfParallels_207 (by decide) (fun c_207 => ?_) (fun c_207 => ?_)
      · have c_207 : lo9.toInt = hi9.toInt := lc_eq c_207
        have a1 : (fsy (a.toNatClampNeg) + fwy (a.toNatClampNeg)).toInt = (fsy (a.toNatClampNeg)).toInt + (fwy (a.toNatClampNeg)).toInt := add_rng (by omega) (by omega)
        have a2 : (fsy (b.toNatClampNeg) + fwy (b.toNatClampNeg)).toInt = (fsy (b.toNatClampNeg)).toInt + (fwy (b.toNatClampNeg)).toInt := add_rng (by omega) (by omega)
        have elo : lo9.toInt = imx (imn (fsy (a.toNatClampNeg)).toInt ((fsy (a.toNatClampNeg)).toInt + (fwy (a.toNatClampNeg)).toInt)) (imn (fsy (b.toNatClampNeg)).toInt ((fsy (b.toNatClampNeg)).toInt + (fwy (b.toNatClampNeg)).toInt)) := by rw [elo9, max_toInt, min_toInt, min_toInt, a1, a2]; rfl
        have ehi : hi9.toInt = imn (imx (fsy (a.toNatClampNeg)).toInt ((fsy (a.toNatClampNeg)).toInt + (fwy (a.toNatClampNeg)).toInt)) (imx (fsy (b.toNatClampNeg)).toInt ((fsy (b.toNatClampNeg)).toInt + (fwy (b.toNatClampNeg)).toInt)) := by rw [ehi9, min_toInt, max_toInt, max_toInt, a1, a2]; rfl
        rw [elo, ehi] at c_207
        refine lv_lload hx hb dX3_meetOfParallels_224 (lv_at hl 5 rfl) ?_
        refine lv_lload hx hb dX3_meetOfParallels_226 (lv_at hl 1 rfl) ?_
        refine W.lcmp hx hb dX3_meetOfParallels_228 ?_
        refine lv_if_ne (tgt := 236) hx hb dX3_meetOfParallels_229 (by decide) (fun c_229 => ?_) (fun c_229 => ?_)
        · have c_229 : (fsy (a.toNatClampNeg)).toInt ≠ lo9.toInt := lc_ne c_229
          refine lv_iconst (v := 0) hx hb dX3_meetOfParallels_236 (by decide) ?_
          refine lv_istore (lv' := [(16, .int 0), (14, .long hi9), (12, .long lo9), (10, .long ((fsy (b.toNatClampNeg)) + (fwy (b.toNatClampNeg)))), (8, .long (fsy (b.toNatClampNeg))), (6, .long ((fsy (a.toNatClampNeg)) + (fwy (a.toNatClampNeg)))), (4, .long (fsy (a.toNatClampNeg))), (3, .int 0), (0, .ref o), (1, .int a), (2, .int b)]) hx hb dX3_meetOfParallels_237 hl (by decide) rfl (fun ls hl => ?_)
          refine lv_aload_n hx hb dX3_meetOfParallels_239 rfl (lv_at hl 8 rfl) ?_
          refine va_get (D := D) (ci := 3) (v := .ref fx) (C := RX3) (T := TX3) (N := 15) hx hb hTB tb_X3 hown hK.1 hP 0 rfl rfl 9 (by decide) (hTB _ tb_2_1) (fun _ h9 => h9) rfl dX3_meetOfParallels_240 ?_
          refine lv_iload hx hb dX3_meetOfParallels_243 (lv_at hl 0 rfl) ?_
          refine lv_if_eq (tgt := 257) hx hb dX3_meetOfParallels_245 (by decide) (fun c_245 => ?_) (fun c_245 => absurd c_245 (by decide))
          refine lv_aload_n hx hb dX3_meetOfParallels_257 rfl (lv_at hl 8 rfl) ?_
          refine va_get (D := D) (ci := 3) (v := .ref sx) (C := RX3) (T := TX3) (N := 15) hx hb hTB tb_X3 hown hK.1 hP 0 rfl rfl 1 (by decide) (hTB _ tb_1_16) (fun _ h9 => h9) rfl dX3_meetOfParallels_258 ?_
          refine lv_iload_n hx hb dX3_meetOfParallels_261 rfl (lv_at hl 9 rfl) ?_
          refine va_lald (f := fsx) hx hb hK.1 hP 1 2 rfl rfl (vp_in_iff.mpr ⟨by omega, by omega⟩) dX3_meetOfParallels_262 ?_
          refine lv_aload_n hx hb dX3_meetOfParallels_263 rfl (lv_at hl 8 rfl) ?_
          refine va_get (D := D) (ci := 3) (v := .ref wx) (C := RX3) (T := TX3) (N := 15) hx hb hTB tb_X3 hown hK.1 hP 0 rfl rfl 3 (by decide) (hTB _ tb_1_18) (fun _ h9 => h9) rfl dX3_meetOfParallels_264 ?_
          refine lv_iload_n hx hb dX3_meetOfParallels_267 rfl (lv_at hl 9 rfl) ?_
          refine va_lald (f := fwx) hx hb hK.1 hP 3 2 rfl rfl (vp_in_iff.mpr ⟨by omega, by omega⟩) dX3_meetOfParallels_268 ?_
          refine lv_ladd hx hb dX3_meetOfParallels_269 ?_
          refine fin_v (wr := [(o, .inr (3, [.ref tl, .ref sx, .ref sy, .ref wx, .ref wy, .ref kx, .ref ky, .int cn, .int ph, .ref fx, .ref fy, .ref dv, .ref sp, .ref p1, .ref p2])), (sx, .inl (cJ, 16, .inr (.inl fsx))), (sy, .inl (cJ, 16, .inr (.inl fsy))), (wx, .inl (cJ, 16, .inr (.inl fwx))), (wy, .inl (cJ, 16, .inr (.inl fwy))), (fy, .inr (1, [.ref yu, .ref yl])), (yu, .inr (2, [.long ah, .long al])), (yl, .inr (2, [.long bh, .long bl])), (sp, .inr (2, [.long w42h, .long w42l]))]) (va_runV (As := [.long ((fsx (a.toNatClampNeg)) + (fwx (a.toNatClampNeg)))]) (rest := []) ⟨hx, hb, hml, hown, hTB⟩ (c_X1_putWhole l D cZ cI cJ fx xu xl uh ul vh vl ((fsx (a.toNatClampNeg)) + (fwx (a.toNatClampNeg))) _) (cw_V hTB tb_9_5 tb_2_0 tb_9_2 tb_9_3 tb_9_4 nd_X1_putWhole rfl rfl ⟨Nat.le_of_ble_eq_true rfl, Nat.le_of_ble_eq_true rfl⟩) (pre_V (q0 := 5) hK hP hD [5, 7, 8] rfl rfl rfl rfl) rfl rfl hl.1 rfl (lv_room (Nat.le_of_ble_eq_true rfl)) dX3_meetOfParallels_270 ⟨Nat.le_of_ble_eq_true rfl, Nat.le_of_ble_eq_true rfl⟩) hP hD hS hA [5, 7, 8] [0, 1, 2, 3, 4, 6, 9, 10, 11] rfl rfl rfl (by decide) (fun u270 H locs hc270 hP hD hS => ?_)
          obtain ⟨⟨x270a, x270b⟩, x270c, x270d⟩ := u270
          dsimp only at hc270
          have hP : va_P D vwCl [(o, .inr (3, [.ref tl, .ref sx, .ref sy, .ref wx, .ref wy, .ref kx, .ref ky, .int cn, .int ph, .ref fx, .ref fy, .ref dv, .ref sp, .ref p1, .ref p2])), (sx, .inl (cJ, 16, .inr (.inl fsx))), (sy, .inl (cJ, 16, .inr (.inl fsy))), (wx, .inl (cJ, 16, .inr (.inl fwx))), (wy, .inl (cJ, 16, .inr (.inl fwy))), (fy, .inr (1, [.ref yu, .ref yl])), (yu, .inr (2, [.long ah, .long al])), (yl, .inr (2, [.long bh, .long bl])), (sp, .inr (2, [.long w42h, .long w42l])), (fx, .inr (1, [.ref xu, .ref xl])), (xu, .inr (2, [.long x270a, .long x270b])), (xl, .inr (2, [.long x270c, .long x270d]))] H := hP
          have hD : va_D A [(o, .inr (3, [.ref tl, .ref sx, .ref sy, .ref wx, .ref wy, .ref kx, .ref ky, .int cn, .int ph, .ref fx, .ref fy, .ref dv, .ref sp, .ref p1, .ref p2])), (sx, .inl (cJ, 16, .inr (.inl fsx))), (sy, .inl (cJ, 16, .inr (.inl fsy))), (wx, .inl (cJ, 16, .inr (.inl fwx))), (wy, .inl (cJ, 16, .inr (.inl fwy))), (fy, .inr (1, [.ref yu, .ref yl])), (yu, .inr (2, [.long ah, .long al])), (yl, .inr (2, [.long bh, .long bl])), (sp, .inr (2, [.long w42h, .long w42l])), (fx, .inr (1, [.ref xu, .ref xl])), (xu, .inr (2, [.long x270a, .long x270b])), (xl, .inr (2, [.long x270c, .long x270d]))] := hD
          refine lv_aload_n hx hb dX3_meetOfParallels_273 rfl (lv_at hl 8 rfl) ?_
          refine va_get (D := D) (ci := 3) (v := .ref fy) (C := RX3) (T := TX3) (N := 15) hx hb hTB tb_X3 hown hK.1 hP 0 rfl rfl 10 (by decide) (hTB _ tb_2_2) (fun _ h9 => h9) rfl dX3_meetOfParallels_274 ?_
          refine lv_iload hx hb dX3_meetOfParallels_277 (lv_at hl 0 rfl) ?_
          refine lv_if_eq (tgt := 291) hx hb dX3_meetOfParallels_279 (by decide) (fun c_279 => ?_) (fun c_279 => absurd c_279 (by decide))
          refine lv_aload_n hx hb dX3_meetOfParallels_291 rfl (lv_at hl 8 rfl) ?_
          refine va_get (D := D) (ci := 3) (v := .ref sy) (C := RX3) (T := TX3) (N := 15) hx hb hTB tb_X3 hown hK.1 hP 0 rfl rfl 2 (by decide) (hTB _ tb_1_17) (fun _ h9 => h9) rfl dX3_meetOfParallels_292 ?_
          refine lv_iload_n hx hb dX3_meetOfParallels_295 rfl (lv_at hl 9 rfl) ?_
          refine va_lald (f := fsy) hx hb hK.1 hP 2 2 rfl rfl (vp_in_iff.mpr ⟨by omega, by omega⟩) dX3_meetOfParallels_296 ?_
          refine lv_aload_n hx hb dX3_meetOfParallels_297 rfl (lv_at hl 8 rfl) ?_
          refine va_get (D := D) (ci := 3) (v := .ref wy) (C := RX3) (T := TX3) (N := 15) hx hb hTB tb_X3 hown hK.1 hP 0 rfl rfl 4 (by decide) (hTB _ tb_1_19) (fun _ h9 => h9) rfl dX3_meetOfParallels_298 ?_
          refine lv_iload_n hx hb dX3_meetOfParallels_301 rfl (lv_at hl 9 rfl) ?_
          refine va_lald (f := fwy) hx hb hK.1 hP 4 2 rfl rfl (vp_in_iff.mpr ⟨by omega, by omega⟩) dX3_meetOfParallels_302 ?_
          refine lv_ladd hx hb dX3_meetOfParallels_303 ?_
          refine fin_v (wr := [(o, .inr (3, [.ref tl, .ref sx, .ref sy, .ref wx, .ref wy, .ref kx, .ref ky, .int cn, .int ph, .ref fx, .ref fy, .ref dv, .ref sp, .ref p1, .ref p2])), (sx, .inl (cJ, 16, .inr (.inl fsx))), (sy, .inl (cJ, 16, .inr (.inl fsy))), (wx, .inl (cJ, 16, .inr (.inl fwx))), (wy, .inl (cJ, 16, .inr (.inl fwy))), (sp, .inr (2, [.long w42h, .long w42l])), (fx, .inr (1, [.ref xu, .ref xl])), (xu, .inr (2, [.long x270a, .long x270b])), (xl, .inr (2, [.long x270c, .long x270d]))]) (va_runV (As := [.long ((fsy (a.toNatClampNeg)) + (fwy (a.toNatClampNeg)))]) (rest := []) ⟨hx, hb, hml, hown, hTB⟩ (c_X1_putWhole l D cZ cI cJ fy yu yl ah al bh bl ((fsy (a.toNatClampNeg)) + (fwy (a.toNatClampNeg))) _) (cw_V hTB tb_9_5 tb_2_0 tb_9_2 tb_9_3 tb_9_4 nd_X1_putWhole rfl rfl ⟨Nat.le_of_ble_eq_true rfl, Nat.le_of_ble_eq_true rfl⟩) (pre_V (q0 := 5) hK hP hD [5, 6, 7] rfl rfl rfl rfl) rfl rfl hl.1 rfl (lv_room (Nat.le_of_ble_eq_true rfl)) dX3_meetOfParallels_304 ⟨Nat.le_of_ble_eq_true rfl, Nat.le_of_ble_eq_true rfl⟩) hP hD hS hA [5, 6, 7] [0, 1, 2, 3, 4, 8, 9, 10, 11] rfl rfl rfl (by decide) (fun u304 H locs hc304 hP hD hS => ?_)
          obtain ⟨⟨x304a, x304b⟩, x304c, x304d⟩ := u304
          dsimp only at hc304
          have hP : va_P D vwCl [(o, .inr (3, [.ref tl, .ref sx, .ref sy, .ref wx, .ref wy, .ref kx, .ref ky, .int cn, .int ph, .ref fx, .ref fy, .ref dv, .ref sp, .ref p1, .ref p2])), (sx, .inl (cJ, 16, .inr (.inl fsx))), (sy, .inl (cJ, 16, .inr (.inl fsy))), (wx, .inl (cJ, 16, .inr (.inl fwx))), (wy, .inl (cJ, 16, .inr (.inl fwy))), (sp, .inr (2, [.long w42h, .long w42l])), (fx, .inr (1, [.ref xu, .ref xl])), (xu, .inr (2, [.long x270a, .long x270b])), (xl, .inr (2, [.long x270c, .long x270d])), (fy, .inr (1, [.ref yu, .ref yl])), (yu, .inr (2, [.long x304a, .long x304b])), (yl, .inr (2, [.long x304c, .long x304d]))] H := hP
          have hD : va_D A [(o, .inr (3, [.ref tl, .ref sx, .ref sy, .ref wx, .ref wy, .ref kx, .ref ky, .int cn, .int ph, .ref fx, .ref fy, .ref dv, .ref sp, .ref p1, .ref p2])), (sx, .inl (cJ, 16, .inr (.inl fsx))), (sy, .inl (cJ, 16, .inr (.inl fsy))), (wx, .inl (cJ, 16, .inr (.inl fwx))), (wy, .inl (cJ, 16, .inr (.inl fwy))), (sp, .inr (2, [.long w42h, .long w42l])), (fx, .inr (1, [.ref xu, .ref xl])), (xu, .inr (2, [.long x270a, .long x270b])), (xl, .inr (2, [.long x270c, .long x270d])), (fy, .inr (1, [.ref yu, .ref yl])), (yu, .inr (2, [.long x304a, .long x304b])), (yl, .inr (2, [.long x304c, .long x304d]))] := hD
          refine lv_iconst (v := 1) hx hb dX3_meetOfParallels_307 (by decide) ?_
          exact hret hP hD hS rfl ((w42h, w42l), (x270a, x270b), (x270c, x270d), (x304a, x304b), (x304c, x304d)) (by have os : ovS (fsx (a.toNatClampNeg)).toInt (fsy (a.toNatClampNeg)).toInt (fwx (a.toNatClampNeg)).toInt (fwy (a.toNatClampNeg)).toInt (fsx (b.toNatClampNeg)).toInt (fsy (b.toNatClampNeg)).toInt (fwx (b.toNatClampNeg)).toInt (fwy (b.toNatClampNeg)).toInt ≠ 0 := (by unfold ovS; rw [if_pos c_65]; rw [elo] at c_229; omega); exact ⟨fun q => absurd (by rw [← e42]; exact c_52) q, fun _ => ⟨by unfold ovA; rw [if_pos c_65]; unfold ovl; rw [if_pos c_207], fun _ => ⟨by unfold ovX; dsimp only; rw [if_neg os, hc270.1.trans (add_rng (by omega) (by omega)), hc270.2]; exact FR_1 _, by unfold ovY; dsimp only; rw [if_neg os, hc304.1.trans (add_rng (by omega) (by omega)), hc304.2]; exact FR_1 _⟩⟩⟩) [0, 1, 2, 3, 4, 5, 6, 9, 7, 8, 10, 11] rfl (by decide) dX3_meetOfParallels_308 (Nat.le_of_ble_eq_true rfl) (Nat.le_of_ble_eq_true rfl)
        · have c_229 : (fsy (a.toNatClampNeg)).toInt = lo9.toInt := lc_eq c_229
          refine lv_iconst (v := 1) hx hb dX3_meetOfParallels_232 (by decide) ?_
          refine lv_goto (tgt := 237) hx hb dX3_meetOfParallels_233 (by decide) ?_
          refine lv_istore (lv' := [(16, .int 1), (14, .long hi9), (12, .long lo9), (10, .long ((fsy (b.toNatClampNeg)) + (fwy (b.toNatClampNeg)))), (8, .long (fsy (b.toNatClampNeg))), (6, .long ((fsy (a.toNatClampNeg)) + (fwy (a.toNatClampNeg)))), (4, .long (fsy (a.toNatClampNeg))), (3, .int 0), (0, .ref o), (1, .int a), (2, .int b)]) hx hb dX3_meetOfParallels_237 hl (by decide) rfl (fun ls hl => ?_)
          refine lv_aload_n hx hb dX3_meetOfParallels_239 rfl (lv_at hl 8 rfl) ?_
          refine va_get (D := D) (ci := 3) (v := .ref fx) (C := RX3) (T := TX3) (N := 15) hx hb hTB tb_X3 hown hK.1 hP 0 rfl rfl 9 (by decide) (hTB _ tb_2_1) (fun _ h9 => h9) rfl dX3_meetOfParallels_240 ?_
          refine lv_iload hx hb dX3_meetOfParallels_243 (lv_at hl 0 rfl) ?_
          refine lv_if_eq (tgt := 257) hx hb dX3_meetOfParallels_245 (by decide) (fun c_245 => absurd c_245 (by decide)) (fun c_245 => ?_)
          refine lv_aload_n hx hb dX3_meetOfParallels_248 rfl (lv_at hl 8 rfl) ?_
          refine va_get (D := D) (ci := 3) (v := .ref sx) (C := RX3) (T := TX3) (N := 15) hx hb hTB tb_X3 hown hK.1 hP 0 rfl rfl 1 (by decide) (hTB _ tb_1_16) (fun _ h9 => h9) rfl dX3_meetOfParallels_249 ?_
          refine lv_iload_n hx hb dX3_meetOfParallels_252 rfl (lv_at hl 9 rfl) ?_
          refine va_lald (f := fsx) hx hb hK.1 hP 1 2 rfl rfl (vp_in_iff.mpr ⟨by omega, by omega⟩) dX3_meetOfParallels_253 ?_
          refine lv_goto (tgt := 270) hx hb dX3_meetOfParallels_254 (by decide) ?_
          refine fin_v (wr := [(o, .inr (3, [.ref tl, .ref sx, .ref sy, .ref wx, .ref wy, .ref kx, .ref ky, .int cn, .int ph, .ref fx, .ref fy, .ref dv, .ref sp, .ref p1, .ref p2])), (sx, .inl (cJ, 16, .inr (.inl fsx))), (sy, .inl (cJ, 16, .inr (.inl fsy))), (wx, .inl (cJ, 16, .inr (.inl fwx))), (wy, .inl (cJ, 16, .inr (.inl fwy))), (fy, .inr (1, [.ref yu, .ref yl])), (yu, .inr (2, [.long ah, .long al])), (yl, .inr (2, [.long bh, .long bl])), (sp, .inr (2, [.long w42h, .long w42l]))]) (va_runV (As := [.long (fsx (a.toNatClampNeg))]) (rest := []) ⟨hx, hb, hml, hown, hTB⟩ (c_X1_putWhole l D cZ cI cJ fx xu xl uh ul vh vl (fsx (a.toNatClampNeg)) _) (cw_V hTB tb_9_5 tb_2_0 tb_9_2 tb_9_3 tb_9_4 nd_X1_putWhole rfl rfl ⟨Nat.le_of_ble_eq_true rfl, Nat.le_of_ble_eq_true rfl⟩) (pre_V (q0 := 5) hK hP hD [5, 7, 8] rfl rfl rfl rfl) rfl rfl hl.1 rfl (lv_room (Nat.le_of_ble_eq_true rfl)) dX3_meetOfParallels_270 ⟨Nat.le_of_ble_eq_true rfl, Nat.le_of_ble_eq_true rfl⟩) hP hD hS hA [5, 7, 8] [0, 1, 2, 3, 4, 6, 9, 10, 11] rfl rfl rfl (by decide) (fun u270 H locs hc270 hP hD hS => ?_)
          obtain ⟨⟨x270a, x270b⟩, x270c, x270d⟩ := u270
          dsimp only at hc270
          have hP : va_P D vwCl [(o, .inr (3, [.ref tl, .ref sx, .ref sy, .ref wx, .ref wy, .ref kx, .ref ky, .int cn, .int ph, .ref fx, .ref fy, .ref dv, .ref sp, .ref p1, .ref p2])), (sx, .inl (cJ, 16, .inr (.inl fsx))), (sy, .inl (cJ, 16, .inr (.inl fsy))), (wx, .inl (cJ, 16, .inr (.inl fwx))), (wy, .inl (cJ, 16, .inr (.inl fwy))), (fy, .inr (1, [.ref yu, .ref yl])), (yu, .inr (2, [.long ah, .long al])), (yl, .inr (2, [.long bh, .long bl])), (sp, .inr (2, [.long w42h, .long w42l])), (fx, .inr (1, [.ref xu, .ref xl])), (xu, .inr (2, [.long x270a, .long x270b])), (xl, .inr (2, [.long x270c, .long x270d]))] H := hP
          have hD : va_D A [(o, .inr (3, [.ref tl, .ref sx, .ref sy, .ref wx, .ref wy, .ref kx, .ref ky, .int cn, .int ph, .ref fx, .ref fy, .ref dv, .ref sp, .ref p1, .ref p2])), (sx, .inl (cJ, 16, .inr (.inl fsx))), (sy, .inl (cJ, 16, .inr (.inl fsy))), (wx, .inl (cJ, 16, .inr (.inl fwx))), (wy, .inl (cJ, 16, .inr (.inl fwy))), (fy, .inr (1, [.ref yu, .ref yl])), (yu, .inr (2, [.long ah, .long al])), (yl, .inr (2, [.long bh, .long bl])), (sp, .inr (2, [.long w42h, .long w42l])), (fx, .inr (1, [.ref xu, .ref xl])), (xu, .inr (2, [.long x270a, .long x270b])), (xl, .inr (2, [.long x270c, .long x270d]))] := hD
          refine lv_aload_n hx hb dX3_meetOfParallels_273 rfl (lv_at hl 8 rfl) ?_
          refine va_get (D := D) (ci := 3) (v := .ref fy) (C := RX3) (T := TX3) (N := 15) hx hb hTB tb_X3 hown hK.1 hP 0 rfl rfl 10 (by decide) (hTB _ tb_2_2) (fun _ h9 => h9) rfl dX3_meetOfParallels_274 ?_
          refine lv_iload hx hb dX3_meetOfParallels_277 (lv_at hl 0 rfl) ?_
          refine lv_if_eq (tgt := 291) hx hb dX3_meetOfParallels_279 (by decide) (fun c_279 => absurd c_279 (by decide)) (fun c_279 => ?_)
          refine lv_aload_n hx hb dX3_meetOfParallels_282 rfl (lv_at hl 8 rfl) ?_
          refine va_get (D := D) (ci := 3) (v := .ref sy) (C := RX3) (T := TX3) (N := 15) hx hb hTB tb_X3 hown hK.1 hP 0 rfl rfl 2 (by decide) (hTB _ tb_1_17) (fun _ h9 => h9) rfl dX3_meetOfParallels_283 ?_
          refine lv_iload_n hx hb dX3_meetOfParallels_286 rfl (lv_at hl 9 rfl) ?_
          refine va_lald (f := fsy) hx hb hK.1 hP 2 2 rfl rfl (vp_in_iff.mpr ⟨by omega, by omega⟩) dX3_meetOfParallels_287 ?_
          refine lv_goto (tgt := 304) hx hb dX3_meetOfParallels_288 (by decide) ?_
          refine fin_v (wr := [(o, .inr (3, [.ref tl, .ref sx, .ref sy, .ref wx, .ref wy, .ref kx, .ref ky, .int cn, .int ph, .ref fx, .ref fy, .ref dv, .ref sp, .ref p1, .ref p2])), (sx, .inl (cJ, 16, .inr (.inl fsx))), (sy, .inl (cJ, 16, .inr (.inl fsy))), (wx, .inl (cJ, 16, .inr (.inl fwx))), (wy, .inl (cJ, 16, .inr (.inl fwy))), (sp, .inr (2, [.long w42h, .long w42l])), (fx, .inr (1, [.ref xu, .ref xl])), (xu, .inr (2, [.long x270a, .long x270b])), (xl, .inr (2, [.long x270c, .long x270d]))]) (va_runV (As := [.long (fsy (a.toNatClampNeg))]) (rest := []) ⟨hx, hb, hml, hown, hTB⟩ (c_X1_putWhole l D cZ cI cJ fy yu yl ah al bh bl (fsy (a.toNatClampNeg)) _) (cw_V hTB tb_9_5 tb_2_0 tb_9_2 tb_9_3 tb_9_4 nd_X1_putWhole rfl rfl ⟨Nat.le_of_ble_eq_true rfl, Nat.le_of_ble_eq_true rfl⟩) (pre_V (q0 := 5) hK hP hD [5, 6, 7] rfl rfl rfl rfl) rfl rfl hl.1 rfl (lv_room (Nat.le_of_ble_eq_true rfl)) dX3_meetOfParallels_304 ⟨Nat.le_of_ble_eq_true rfl, Nat.le_of_ble_eq_true rfl⟩) hP hD hS hA [5, 6, 7] [0, 1, 2, 3, 4, 8, 9, 10, 11] rfl rfl rfl (by decide) (fun u304 H locs hc304 hP hD hS => ?_)
          obtain ⟨⟨x304a, x304b⟩, x304c, x304d⟩ := u304
          dsimp only at hc304
          have hP : va_P D vwCl [(o, .inr (3, [.ref tl, .ref sx, .ref sy, .ref wx, .ref wy, .ref kx, .ref ky, .int cn, .int ph, .ref fx, .ref fy, .ref dv, .ref sp, .ref p1, .ref p2])), (sx, .inl (cJ, 16, .inr (.inl fsx))), (sy, .inl (cJ, 16, .inr (.inl fsy))), (wx, .inl (cJ, 16, .inr (.inl fwx))), (wy, .inl (cJ, 16, .inr (.inl fwy))), (sp, .inr (2, [.long w42h, .long w42l])), (fx, .inr (1, [.ref xu, .ref xl])), (xu, .inr (2, [.long x270a, .long x270b])), (xl, .inr (2, [.long x270c, .long x270d])), (fy, .inr (1, [.ref yu, .ref yl])), (yu, .inr (2, [.long x304a, .long x304b])), (yl, .inr (2, [.long x304c, .long x304d]))] H := hP
          have hD : va_D A [(o, .inr (3, [.ref tl, .ref sx, .ref sy, .ref wx, .ref wy, .ref kx, .ref ky, .int cn, .int ph, .ref fx, .ref fy, .ref dv, .ref sp, .ref p1, .ref p2])), (sx, .inl (cJ, 16, .inr (.inl fsx))), (sy, .inl (cJ, 16, .inr (.inl fsy))), (wx, .inl (cJ, 16, .inr (.inl fwx))), (wy, .inl (cJ, 16, .inr (.inl fwy))), (sp, .inr (2, [.long w42h, .long w42l])), (fx, .inr (1, [.ref xu, .ref xl])), (xu, .inr (2, [.long x270a, .long x270b])), (xl, .inr (2, [.long x270c, .long x270d])), (fy, .inr (1, [.ref yu, .ref yl])), (yu, .inr (2, [.long x304a, .long x304b])), (yl, .inr (2, [.long x304c, .long x304d]))] := hD
          refine lv_iconst (v := 1) hx hb dX3_meetOfParallels_307 (by decide) ?_
          exact hret hP hD hS rfl ((w42h, w42l), (x270a, x270b), (x270c, x270d), (x304a, x304b), (x304c, x304d)) (by have os : ovS (fsx (a.toNatClampNeg)).toInt (fsy (a.toNatClampNeg)).toInt (fwx (a.toNatClampNeg)).toInt (fwy (a.toNatClampNeg)).toInt (fsx (b.toNatClampNeg)).toInt (fsy (b.toNatClampNeg)).toInt (fwx (b.toNatClampNeg)).toInt (fwy (b.toNatClampNeg)).toInt = 0 := (by unfold ovS; rw [if_pos c_65]; rw [elo] at c_229; omega); exact ⟨fun q => absurd (by rw [← e42]; exact c_52) q, fun _ => ⟨by unfold ovA; rw [if_pos c_65]; unfold ovl; rw [if_pos c_207], fun _ => ⟨by unfold ovX; dsimp only; rw [if_pos os, hc270.1, hc270.2]; exact FR_1 _, by unfold ovY; dsimp only; rw [if_pos os, hc304.1, hc304.2]; exact FR_1 _⟩⟩⟩) [0, 1, 2, 3, 4, 5, 6, 9, 7, 8, 10, 11] rfl (by decide) dX3_meetOfParallels_308 (Nat.le_of_ble_eq_true rfl) (Nat.le_of_ble_eq_true rfl)
      · have c_207 : lo9.toInt ≠ hi9.toInt := lc_ne c_207
        have a1 : (fsy (a.toNatClampNeg) + fwy (a.toNatClampNeg)).toInt = (fsy (a.toNatClampNeg)).toInt + (fwy (a.toNatClampNeg)).toInt := add_rng (by omega) (by omega)
        have a2 : (fsy (b.toNatClampNeg) + fwy (b.toNatClampNeg)).toInt = (fsy (b.toNatClampNeg)).toInt + (fwy (b.toNatClampNeg)).toInt := add_rng (by omega) (by omega)
        have elo : lo9.toInt = imx (imn (fsy (a.toNatClampNeg)).toInt ((fsy (a.toNatClampNeg)).toInt + (fwy (a.toNatClampNeg)).toInt)) (imn (fsy (b.toNatClampNeg)).toInt ((fsy (b.toNatClampNeg)).toInt + (fwy (b.toNatClampNeg)).toInt)) := by rw [elo9, max_toInt, min_toInt, min_toInt, a1, a2]; rfl
        have ehi : hi9.toInt = imn (imx (fsy (a.toNatClampNeg)).toInt ((fsy (a.toNatClampNeg)).toInt + (fwy (a.toNatClampNeg)).toInt)) (imx (fsy (b.toNatClampNeg)).toInt ((fsy (b.toNatClampNeg)).toInt + (fwy (b.toNatClampNeg)).toInt)) := by rw [ehi9, min_toInt, max_toInt, max_toInt, a1, a2]; rfl
        rw [elo, ehi] at c_207
        refine lv_lload hx hb dX3_meetOfParallels_210 (lv_at hl 1 rfl) ?_
        refine lv_lload hx hb dX3_meetOfParallels_212 (lv_at hl 0 rfl) ?_
        refine W.lcmp hx hb dX3_meetOfParallels_214 ?_
        refine lv_if_le (tgt := 222) hx hb dX3_meetOfParallels_215 (by decide) (fun c_215 => ?_) (fun c_215 => ?_)
        · have c_215 : lo9.toInt ≤ hi9.toInt := lc_le c_215
          refine lv_iconst (v := 2) hx hb dX3_meetOfParallels_222 (by decide) ?_
          exact hret hP hD hS rfl ((w42h, w42l), (uh, ul), (vh, vl), (ah, al), (bh, bl)) (⟨fun q => absurd (by rw [← e42]; exact c_52) q, fun _ => ⟨by unfold ovA; rw [if_pos c_65]; unfold ovl; rw [if_neg c_207, if_neg (by rw [elo, ehi] at c_215; omega)], fun q => absurd q (by decide)⟩⟩) [0, 1, 2, 3, 4, 11, 5, 6, 7, 8, 9, 10] rfl (by decide) dX3_meetOfParallels_223 (Nat.le_of_ble_eq_true rfl) (Nat.le_of_ble_eq_true rfl)
        · have c_215 : hi9.toInt < lo9.toInt := lc_nle c_215
          refine lv_iconst (v := 0) hx hb dX3_meetOfParallels_218 (by decide) ?_
          refine lv_goto (tgt := 223) hx hb dX3_meetOfParallels_219 (by decide) ?_
          exact hret hP hD hS rfl ((w42h, w42l), (uh, ul), (vh, vl), (ah, al), (bh, bl)) (⟨fun q => absurd (by rw [← e42]; exact c_52) q, fun _ => ⟨by unfold ovA; rw [if_pos c_65]; unfold ovl; rw [if_neg c_207, if_pos (by rw [elo, ehi] at c_215; exact c_215)], fun q => absurd q (by decide)⟩⟩) [0, 1, 2, 3, 4, 11, 5, 6, 7, 8, 9, 10] rfl (by decide) dX3_meetOfParallels_223 (Nat.le_of_ble_eq_true rfl) (Nat.le_of_ble_eq_true rfl)
    · have c_65 : (fwx (a.toNatClampNeg)).toInt ≠ (0 : Int) := lc_ne c_65
      refine lv_iconst (v := 1) hx hb dX3_meetOfParallels_68 (by decide) ?_
      refine lv_goto (tgt := 73) hx hb dX3_meetOfParallels_69 (by decide) ?_
      refine lv_istore_n (lv' := [(3, .int 1), (0, .ref o), (1, .int a), (2, .int b)]) hx hb dX3_meetOfParallels_73 rfl hl (by decide) rfl (fun ls hl => ?_)
      refine lv_iload_n hx hb dX3_meetOfParallels_74 rfl (lv_at hl 0 rfl) ?_
      refine lv_if_eq (tgt := 87) hx hb dX3_meetOfParallels_75 (by decide) (fun c_75 => absurd c_75 (by decide)) (fun c_75 => ?_)
      refine lv_aload_n hx hb dX3_meetOfParallels_78 rfl (lv_at hl 1 rfl) ?_
      refine va_get (D := D) (ci := 3) (v := .ref sx) (C := RX3) (T := TX3) (N := 15) hx hb hTB tb_X3 hown hK.1 hP 0 rfl rfl 1 (by decide) (hTB _ tb_1_16) (fun _ h9 => h9) rfl dX3_meetOfParallels_79 ?_
      refine lv_iload_n hx hb dX3_meetOfParallels_82 rfl (lv_at hl 2 rfl) ?_
      refine va_lald (f := fsx) hx hb hK.1 hP 1 2 rfl rfl (vp_in_iff.mpr ⟨by omega, by omega⟩) dX3_meetOfParallels_83 ?_
      refine lv_goto (tgt := 93) hx hb dX3_meetOfParallels_84 (by decide) ?_
      refine lv_lstore (lv' := [(4, .long (fsx (a.toNatClampNeg))), (3, .int 1), (0, .ref o), (1, .int a), (2, .int b)]) hx hb dX3_meetOfParallels_93 hl (by decide) rfl (fun ls hl => ?_)
      refine lv_lload hx hb dX3_meetOfParallels_95 (lv_at hl 0 rfl) ?_
      refine lv_iload_n hx hb dX3_meetOfParallels_97 rfl (lv_at hl 1 rfl) ?_
      refine lv_if_eq (tgt := 110) hx hb dX3_meetOfParallels_98 (by decide) (fun c_98 => absurd c_98 (by decide)) (fun c_98 => ?_)
      refine lv_aload_n hx hb dX3_meetOfParallels_101 rfl (lv_at hl 2 rfl) ?_
      refine va_get (D := D) (ci := 3) (v := .ref wx) (C := RX3) (T := TX3) (N := 15) hx hb hTB tb_X3 hown hK.1 hP 0 rfl rfl 3 (by decide) (hTB _ tb_1_18) (fun _ h9 => h9) rfl dX3_meetOfParallels_102 ?_
      refine lv_iload_n hx hb dX3_meetOfParallels_105 rfl (lv_at hl 3 rfl) ?_
      refine va_lald (f := fwx) hx hb hK.1 hP 3 2 rfl rfl (vp_in_iff.mpr ⟨by omega, by omega⟩) dX3_meetOfParallels_106 ?_
      refine lv_goto (tgt := 116) hx hb dX3_meetOfParallels_107 (by decide) ?_
      refine lv_ladd hx hb dX3_meetOfParallels_116 ?_
      refine lv_lstore (lv' := [(6, .long ((fsx (a.toNatClampNeg)) + (fwx (a.toNatClampNeg)))), (4, .long (fsx (a.toNatClampNeg))), (3, .int 1), (0, .ref o), (1, .int a), (2, .int b)]) hx hb dX3_meetOfParallels_117 hl (by decide) rfl (fun ls hl => ?_)
      refine lv_iload_n hx hb dX3_meetOfParallels_119 rfl (lv_at hl 2 rfl) ?_
      refine lv_if_eq (tgt := 132) hx hb dX3_meetOfParallels_120 (by decide) (fun c_120 => absurd c_120 (by decide)) (fun c_120 => ?_)
      refine lv_aload_n hx hb dX3_meetOfParallels_123 rfl (lv_at hl 3 rfl) ?_
      refine va_get (D := D) (ci := 3) (v := .ref sx) (C := RX3) (T := TX3) (N := 15) hx hb hTB tb_X3 hown hK.1 hP 0 rfl rfl 1 (by decide) (hTB _ tb_1_16) (fun _ h9 => h9) rfl dX3_meetOfParallels_124 ?_
      refine lv_iload_n hx hb dX3_meetOfParallels_127 rfl (lv_at hl 5 rfl) ?_
      refine va_lald (f := fsx) hx hb hK.1 hP 1 2 rfl rfl (vp_in_iff.mpr ⟨by omega, by omega⟩) dX3_meetOfParallels_128 ?_
      refine lv_goto (tgt := 138) hx hb dX3_meetOfParallels_129 (by decide) ?_
      refine lv_lstore (lv' := [(8, .long (fsx (b.toNatClampNeg))), (6, .long ((fsx (a.toNatClampNeg)) + (fwx (a.toNatClampNeg)))), (4, .long (fsx (a.toNatClampNeg))), (3, .int 1), (0, .ref o), (1, .int a), (2, .int b)]) hx hb dX3_meetOfParallels_138 hl (by decide) rfl (fun ls hl => ?_)
      refine lv_lload hx hb dX3_meetOfParallels_140 (lv_at hl 0 rfl) ?_
      refine lv_iload_n hx hb dX3_meetOfParallels_142 rfl (lv_at hl 3 rfl) ?_
      refine lv_if_eq (tgt := 155) hx hb dX3_meetOfParallels_143 (by decide) (fun c_143 => absurd c_143 (by decide)) (fun c_143 => ?_)
      refine lv_aload_n hx hb dX3_meetOfParallels_146 rfl (lv_at hl 4 rfl) ?_
      refine va_get (D := D) (ci := 3) (v := .ref wx) (C := RX3) (T := TX3) (N := 15) hx hb hTB tb_X3 hown hK.1 hP 0 rfl rfl 3 (by decide) (hTB _ tb_1_18) (fun _ h9 => h9) rfl dX3_meetOfParallels_147 ?_
      refine lv_iload_n hx hb dX3_meetOfParallels_150 rfl (lv_at hl 6 rfl) ?_
      refine va_lald (f := fwx) hx hb hK.1 hP 3 2 rfl rfl (vp_in_iff.mpr ⟨by omega, by omega⟩) dX3_meetOfParallels_151 ?_
      refine lv_goto (tgt := 161) hx hb dX3_meetOfParallels_152 (by decide) ?_
      refine lv_ladd hx hb dX3_meetOfParallels_161 ?_
      refine lv_lstore (lv' := [(10, .long ((fsx (b.toNatClampNeg)) + (fwx (b.toNatClampNeg)))), (8, .long (fsx (b.toNatClampNeg))), (6, .long ((fsx (a.toNatClampNeg)) + (fwx (a.toNatClampNeg)))), (4, .long (fsx (a.toNatClampNeg))), (3, .int 1), (0, .ref o), (1, .int a), (2, .int b)]) hx hb dX3_meetOfParallels_162 hl (by decide) rfl (fun ls hl => ?_)
      refine lv_lload hx hb dX3_meetOfParallels_164 (lv_at hl 3 rfl) ?_
      refine lv_lload hx hb dX3_meetOfParallels_166 (lv_at hl 2 rfl) ?_
      refine va_mmin_long hx hb (hml.trans hl.1.symm) hown (hTB _ tb_8_19) (hTB _ tb_8_20) (hTB _ tb_8_21) (hTB _ tb_8_22) (Nat.le_of_ble_eq_true rfl) (Nat.le_of_ble_eq_true rfl) (Nat.zero_le _) (Nat.zero_le _) dX3_meetOfParallels_168 ?_
      refine lv_lload hx hb dX3_meetOfParallels_171 (lv_at hl 1 rfl) ?_
      refine lv_lload hx hb dX3_meetOfParallels_173 (lv_at hl 0 rfl) ?_
      refine va_mmin_long hx hb (hml.trans hl.1.symm) hown (hTB _ tb_8_19) (hTB _ tb_8_20) (hTB _ tb_8_21) (hTB _ tb_8_22) (Nat.le_of_ble_eq_true rfl) (Nat.le_of_ble_eq_true rfl) (Nat.zero_le _) (Nat.zero_le _) dX3_meetOfParallels_175 ?_
      refine va_mmax_long hx hb (hml.trans hl.1.symm) hown (hTB _ tb_8_23) (hTB _ tb_9_0) (hTB _ tb_8_21) (hTB _ tb_9_1) (Nat.le_of_ble_eq_true rfl) (Nat.le_of_ble_eq_true rfl) (Nat.zero_le _) (Nat.zero_le _) dX3_meetOfParallels_178 ?_
      refine lv_topl (fun lo9 elo9 => ?_)
      refine lv_lstore (lv' := [(12, .long lo9), (10, .long ((fsx (b.toNatClampNeg)) + (fwx (b.toNatClampNeg)))), (8, .long (fsx (b.toNatClampNeg))), (6, .long ((fsx (a.toNatClampNeg)) + (fwx (a.toNatClampNeg)))), (4, .long (fsx (a.toNatClampNeg))), (3, .int 1), (0, .ref o), (1, .int a), (2, .int b)]) hx hb dX3_meetOfParallels_181 hl (by decide) rfl (fun ls hl => ?_)
      refine lv_lload hx hb dX3_meetOfParallels_183 (lv_at hl 4 rfl) ?_
      refine lv_lload hx hb dX3_meetOfParallels_185 (lv_at hl 3 rfl) ?_
      refine va_mmax_long hx hb (hml.trans hl.1.symm) hown (hTB _ tb_8_23) (hTB _ tb_9_0) (hTB _ tb_8_21) (hTB _ tb_9_1) (Nat.le_of_ble_eq_true rfl) (Nat.le_of_ble_eq_true rfl) (Nat.zero_le _) (Nat.zero_le _) dX3_meetOfParallels_187 ?_
      refine lv_lload hx hb dX3_meetOfParallels_190 (lv_at hl 2 rfl) ?_
      refine lv_lload hx hb dX3_meetOfParallels_192 (lv_at hl 1 rfl) ?_
      refine va_mmax_long hx hb (hml.trans hl.1.symm) hown (hTB _ tb_8_23) (hTB _ tb_9_0) (hTB _ tb_8_21) (hTB _ tb_9_1) (Nat.le_of_ble_eq_true rfl) (Nat.le_of_ble_eq_true rfl) (Nat.zero_le _) (Nat.zero_le _) dX3_meetOfParallels_194 ?_
      refine va_mmin_long hx hb (hml.trans hl.1.symm) hown (hTB _ tb_8_19) (hTB _ tb_8_20) (hTB _ tb_8_21) (hTB _ tb_8_22) (Nat.le_of_ble_eq_true rfl) (Nat.le_of_ble_eq_true rfl) (Nat.zero_le _) (Nat.zero_le _) dX3_meetOfParallels_197 ?_
      refine lv_topl (fun hi9 ehi9 => ?_)
      refine lv_lstore (lv' := [(14, .long hi9), (12, .long lo9), (10, .long ((fsx (b.toNatClampNeg)) + (fwx (b.toNatClampNeg)))), (8, .long (fsx (b.toNatClampNeg))), (6, .long ((fsx (a.toNatClampNeg)) + (fwx (a.toNatClampNeg)))), (4, .long (fsx (a.toNatClampNeg))), (3, .int 1), (0, .ref o), (1, .int a), (2, .int b)]) hx hb dX3_meetOfParallels_200 hl (by decide) rfl (fun ls hl => ?_)
      refine lv_lload hx hb dX3_meetOfParallels_202 (lv_at hl 1 rfl) ?_
      refine lv_lload hx hb dX3_meetOfParallels_204 (lv_at hl 0 rfl) ?_
      refine W.lcmp hx hb dX3_meetOfParallels_206 ?_
      refine lv_if_eq (tgt := 224) hx hb dX3_meetOfParallels_207 (by decide) (fun c_207 => ?_) (fun c_207 => ?_)
      · have c_207 : lo9.toInt = hi9.toInt := lc_eq c_207
        have a1 : (fsx (a.toNatClampNeg) + fwx (a.toNatClampNeg)).toInt = (fsx (a.toNatClampNeg)).toInt + (fwx (a.toNatClampNeg)).toInt := add_rng (by omega) (by omega)
        have a2 : (fsx (b.toNatClampNeg) + fwx (b.toNatClampNeg)).toInt = (fsx (b.toNatClampNeg)).toInt + (fwx (b.toNatClampNeg)).toInt := add_rng (by omega) (by omega)
        have elo : lo9.toInt = imx (imn (fsx (a.toNatClampNeg)).toInt ((fsx (a.toNatClampNeg)).toInt + (fwx (a.toNatClampNeg)).toInt)) (imn (fsx (b.toNatClampNeg)).toInt ((fsx (b.toNatClampNeg)).toInt + (fwx (b.toNatClampNeg)).toInt)) := by rw [elo9, max_toInt, min_toInt, min_toInt, a1, a2]; rfl
        have ehi : hi9.toInt = imn (imx (fsx (a.toNatClampNeg)).toInt ((fsx (a.toNatClampNeg)).toInt + (fwx (a.toNatClampNeg)).toInt)) (imx (fsx (b.toNatClampNeg)).toInt ((fsx (b.toNatClampNeg)).toInt + (fwx (b.toNatClampNeg)).toInt)) := by rw [ehi9, min_toInt, max_toInt, max_toInt, a1, a2]; rfl
        rw [elo, ehi] at c_207
        refine lv_lload hx hb dX3_meetOfParallels_224 (lv_at hl 5 rfl) ?_
        refine lv_lload hx hb dX3_meetOfParallels_226 (lv_at hl 1 rfl) ?_
        refine W.lcmp hx hb dX3_meetOfParallels_228 ?_
        refine lv_if_ne (tgt := 236) hx hb dX3_meetOfParallels_229 (by decide) (fun c_229 => ?_) (fun c_229 => ?_)
        · have c_229 : (fsx (a.toNatClampNeg)).toInt ≠ lo9.toInt := lc_ne c_229
          refine lv_iconst (v := 0) hx hb dX3_meetOfParallels_236 (by decide) ?_
          refine lv_istore (lv' := [(16, .int 0), (14, .long hi9), (12, .long lo9), (10, .long ((fsx (b.toNatClampNeg)) + (fwx (b.toNatClampNeg)))), (8, .long (fsx (b.toNatClampNeg))), (6, .long ((fsx (a.toNatClampNeg)) + (fwx (a.toNatClampNeg)))), (4, .long (fsx (a.toNatClampNeg))), (3, .int 1), (0, .ref o), (1, .int a), (2, .int b)]) hx hb dX3_meetOfParallels_237 hl (by decide) rfl (fun ls hl => ?_)
          refine lv_aload_n hx hb dX3_meetOfParallels_239 rfl (lv_at hl 8 rfl) ?_
          refine va_get (D := D) (ci := 3) (v := .ref fx) (C := RX3) (T := TX3) (N := 15) hx hb hTB tb_X3 hown hK.1 hP 0 rfl rfl 9 (by decide) (hTB _ tb_2_1) (fun _ h9 => h9) rfl dX3_meetOfParallels_240 ?_
          refine lv_iload hx hb dX3_meetOfParallels_243 (lv_at hl 0 rfl) ?_
          refine lv_if_eq (tgt := 257) hx hb dX3_meetOfParallels_245 (by decide) (fun c_245 => ?_) (fun c_245 => absurd c_245 (by decide))
          refine lv_aload_n hx hb dX3_meetOfParallels_257 rfl (lv_at hl 8 rfl) ?_
          refine va_get (D := D) (ci := 3) (v := .ref sx) (C := RX3) (T := TX3) (N := 15) hx hb hTB tb_X3 hown hK.1 hP 0 rfl rfl 1 (by decide) (hTB _ tb_1_16) (fun _ h9 => h9) rfl dX3_meetOfParallels_258 ?_
          refine lv_iload_n hx hb dX3_meetOfParallels_261 rfl (lv_at hl 9 rfl) ?_
          refine va_lald (f := fsx) hx hb hK.1 hP 1 2 rfl rfl (vp_in_iff.mpr ⟨by omega, by omega⟩) dX3_meetOfParallels_262 ?_
          refine lv_aload_n hx hb dX3_meetOfParallels_263 rfl (lv_at hl 8 rfl) ?_
          refine va_get (D := D) (ci := 3) (v := .ref wx) (C := RX3) (T := TX3) (N := 15) hx hb hTB tb_X3 hown hK.1 hP 0 rfl rfl 3 (by decide) (hTB _ tb_1_18) (fun _ h9 => h9) rfl dX3_meetOfParallels_264 ?_
          refine lv_iload_n hx hb dX3_meetOfParallels_267 rfl (lv_at hl 9 rfl) ?_
          refine va_lald (f := fwx) hx hb hK.1 hP 3 2 rfl rfl (vp_in_iff.mpr ⟨by omega, by omega⟩) dX3_meetOfParallels_268 ?_
          refine lv_ladd hx hb dX3_meetOfParallels_269 ?_
          refine fin_v (wr := [(o, .inr (3, [.ref tl, .ref sx, .ref sy, .ref wx, .ref wy, .ref kx, .ref ky, .int cn, .int ph, .ref fx, .ref fy, .ref dv, .ref sp, .ref p1, .ref p2])), (sx, .inl (cJ, 16, .inr (.inl fsx))), (sy, .inl (cJ, 16, .inr (.inl fsy))), (wx, .inl (cJ, 16, .inr (.inl fwx))), (wy, .inl (cJ, 16, .inr (.inl fwy))), (fy, .inr (1, [.ref yu, .ref yl])), (yu, .inr (2, [.long ah, .long al])), (yl, .inr (2, [.long bh, .long bl])), (sp, .inr (2, [.long w42h, .long w42l]))]) (va_runV (As := [.long ((fsx (a.toNatClampNeg)) + (fwx (a.toNatClampNeg)))]) (rest := []) ⟨hx, hb, hml, hown, hTB⟩ (c_X1_putWhole l D cZ cI cJ fx xu xl uh ul vh vl ((fsx (a.toNatClampNeg)) + (fwx (a.toNatClampNeg))) _) (cw_V hTB tb_9_5 tb_2_0 tb_9_2 tb_9_3 tb_9_4 nd_X1_putWhole rfl rfl ⟨Nat.le_of_ble_eq_true rfl, Nat.le_of_ble_eq_true rfl⟩) (pre_V (q0 := 5) hK hP hD [5, 7, 8] rfl rfl rfl rfl) rfl rfl hl.1 rfl (lv_room (Nat.le_of_ble_eq_true rfl)) dX3_meetOfParallels_270 ⟨Nat.le_of_ble_eq_true rfl, Nat.le_of_ble_eq_true rfl⟩) hP hD hS hA [5, 7, 8] [0, 1, 2, 3, 4, 6, 9, 10, 11] rfl rfl rfl (by decide) (fun u270 H locs hc270 hP hD hS => ?_)
          obtain ⟨⟨x270a, x270b⟩, x270c, x270d⟩ := u270
          dsimp only at hc270
          have hP : va_P D vwCl [(o, .inr (3, [.ref tl, .ref sx, .ref sy, .ref wx, .ref wy, .ref kx, .ref ky, .int cn, .int ph, .ref fx, .ref fy, .ref dv, .ref sp, .ref p1, .ref p2])), (sx, .inl (cJ, 16, .inr (.inl fsx))), (sy, .inl (cJ, 16, .inr (.inl fsy))), (wx, .inl (cJ, 16, .inr (.inl fwx))), (wy, .inl (cJ, 16, .inr (.inl fwy))), (fy, .inr (1, [.ref yu, .ref yl])), (yu, .inr (2, [.long ah, .long al])), (yl, .inr (2, [.long bh, .long bl])), (sp, .inr (2, [.long w42h, .long w42l])), (fx, .inr (1, [.ref xu, .ref xl])), (xu, .inr (2, [.long x270a, .long x270b])), (xl, .inr (2, [.long x270c, .long x270d]))] H := hP
          have hD : va_D A [(o, .inr (3, [.ref tl, .ref sx, .ref sy, .ref wx, .ref wy, .ref kx, .ref ky, .int cn, .int ph, .ref fx, .ref fy, .ref dv, .ref sp, .ref p1, .ref p2])), (sx, .inl (cJ, 16, .inr (.inl fsx))), (sy, .inl (cJ, 16, .inr (.inl fsy))), (wx, .inl (cJ, 16, .inr (.inl fwx))), (wy, .inl (cJ, 16, .inr (.inl fwy))), (fy, .inr (1, [.ref yu, .ref yl])), (yu, .inr (2, [.long ah, .long al])), (yl, .inr (2, [.long bh, .long bl])), (sp, .inr (2, [.long w42h, .long w42l])), (fx, .inr (1, [.ref xu, .ref xl])), (xu, .inr (2, [.long x270a, .long x270b])), (xl, .inr (2, [.long x270c, .long x270d]))] := hD
          refine lv_aload_n hx hb dX3_meetOfParallels_273 rfl (lv_at hl 8 rfl) ?_
          refine va_get (D := D) (ci := 3) (v := .ref fy) (C := RX3) (T := TX3) (N := 15) hx hb hTB tb_X3 hown hK.1 hP 0 rfl rfl 10 (by decide) (hTB _ tb_2_2) (fun _ h9 => h9) rfl dX3_meetOfParallels_274 ?_
          refine lv_iload hx hb dX3_meetOfParallels_277 (lv_at hl 0 rfl) ?_
          refine lv_if_eq (tgt := 291) hx hb dX3_meetOfParallels_279 (by decide) (fun c_279 => ?_) (fun c_279 => absurd c_279 (by decide))
          refine lv_aload_n hx hb dX3_meetOfParallels_291 rfl (lv_at hl 8 rfl) ?_
          refine va_get (D := D) (ci := 3) (v := .ref sy) (C := RX3) (T := TX3) (N := 15) hx hb hTB tb_X3 hown hK.1 hP 0 rfl rfl 2 (by decide) (hTB _ tb_1_17) (fun _ h9 => h9) rfl dX3_meetOfParallels_292 ?_
          refine lv_iload_n hx hb dX3_meetOfParallels_295 rfl (lv_at hl 9 rfl) ?_
          refine va_lald (f := fsy) hx hb hK.1 hP 2 2 rfl rfl (vp_in_iff.mpr ⟨by omega, by omega⟩) dX3_meetOfParallels_296 ?_
          refine lv_aload_n hx hb dX3_meetOfParallels_297 rfl (lv_at hl 8 rfl) ?_
          refine va_get (D := D) (ci := 3) (v := .ref wy) (C := RX3) (T := TX3) (N := 15) hx hb hTB tb_X3 hown hK.1 hP 0 rfl rfl 4 (by decide) (hTB _ tb_1_19) (fun _ h9 => h9) rfl dX3_meetOfParallels_298 ?_
          refine lv_iload_n hx hb dX3_meetOfParallels_301 rfl (lv_at hl 9 rfl) ?_
          refine va_lald (f := fwy) hx hb hK.1 hP 4 2 rfl rfl (vp_in_iff.mpr ⟨by omega, by omega⟩) dX3_meetOfParallels_302 ?_
          refine lv_ladd hx hb dX3_meetOfParallels_303 ?_
          refine fin_v (wr := [(o, .inr (3, [.ref tl, .ref sx, .ref sy, .ref wx, .ref wy, .ref kx, .ref ky, .int cn, .int ph, .ref fx, .ref fy, .ref dv, .ref sp, .ref p1, .ref p2])), (sx, .inl (cJ, 16, .inr (.inl fsx))), (sy, .inl (cJ, 16, .inr (.inl fsy))), (wx, .inl (cJ, 16, .inr (.inl fwx))), (wy, .inl (cJ, 16, .inr (.inl fwy))), (sp, .inr (2, [.long w42h, .long w42l])), (fx, .inr (1, [.ref xu, .ref xl])), (xu, .inr (2, [.long x270a, .long x270b])), (xl, .inr (2, [.long x270c, .long x270d]))]) (va_runV (As := [.long ((fsy (a.toNatClampNeg)) + (fwy (a.toNatClampNeg)))]) (rest := []) ⟨hx, hb, hml, hown, hTB⟩ (c_X1_putWhole l D cZ cI cJ fy yu yl ah al bh bl ((fsy (a.toNatClampNeg)) + (fwy (a.toNatClampNeg))) _) (cw_V hTB tb_9_5 tb_2_0 tb_9_2 tb_9_3 tb_9_4 nd_X1_putWhole rfl rfl ⟨Nat.le_of_ble_eq_true rfl, Nat.le_of_ble_eq_true rfl⟩) (pre_V (q0 := 5) hK hP hD [5, 6, 7] rfl rfl rfl rfl) rfl rfl hl.1 rfl (lv_room (Nat.le_of_ble_eq_true rfl)) dX3_meetOfParallels_304 ⟨Nat.le_of_ble_eq_true rfl, Nat.le_of_ble_eq_true rfl⟩) hP hD hS hA [5, 6, 7] [0, 1, 2, 3, 4, 8, 9, 10, 11] rfl rfl rfl (by decide) (fun u304 H locs hc304 hP hD hS => ?_)
          obtain ⟨⟨x304a, x304b⟩, x304c, x304d⟩ := u304
          dsimp only at hc304
          have hP : va_P D vwCl [(o, .inr (3, [.ref tl, .ref sx, .ref sy, .ref wx, .ref wy, .ref kx, .ref ky, .int cn, .int ph, .ref fx, .ref fy, .ref dv, .ref sp, .ref p1, .ref p2])), (sx, .inl (cJ, 16, .inr (.inl fsx))), (sy, .inl (cJ, 16, .inr (.inl fsy))), (wx, .inl (cJ, 16, .inr (.inl fwx))), (wy, .inl (cJ, 16, .inr (.inl fwy))), (sp, .inr (2, [.long w42h, .long w42l])), (fx, .inr (1, [.ref xu, .ref xl])), (xu, .inr (2, [.long x270a, .long x270b])), (xl, .inr (2, [.long x270c, .long x270d])), (fy, .inr (1, [.ref yu, .ref yl])), (yu, .inr (2, [.long x304a, .long x304b])), (yl, .inr (2, [.long x304c, .long x304d]))] H := hP
          have hD : va_D A [(o, .inr (3, [.ref tl, .ref sx, .ref sy, .ref wx, .ref wy, .ref kx, .ref ky, .int cn, .int ph, .ref fx, .ref fy, .ref dv, .ref sp, .ref p1, .ref p2])), (sx, .inl (cJ, 16, .inr (.inl fsx))), (sy, .inl (cJ, 16, .inr (.inl fsy))), (wx, .inl (cJ, 16, .inr (.inl fwx))), (wy, .inl (cJ, 16, .inr (.inl fwy))), (sp, .inr (2, [.long w42h, .long w42l])), (fx, .inr (1, [.ref xu, .ref xl])), (xu, .inr (2, [.long x270a, .long x270b])), (xl, .inr (2, [.long x270c, .long x270d])), (fy, .inr (1, [.ref yu, .ref yl])), (yu, .inr (2, [.long x304a, .long x304b])), (yl, .inr (2, [.long x304c, .long x304d]))] := hD
          refine lv_iconst (v := 1) hx hb dX3_meetOfParallels_307 (by decide) ?_
          exact hret hP hD hS rfl ((w42h, w42l), (x270a, x270b), (x270c, x270d), (x304a, x304b), (x304c, x304d)) (by have os : ovS (fsx (a.toNatClampNeg)).toInt (fsy (a.toNatClampNeg)).toInt (fwx (a.toNatClampNeg)).toInt (fwy (a.toNatClampNeg)).toInt (fsx (b.toNatClampNeg)).toInt (fsy (b.toNatClampNeg)).toInt (fwx (b.toNatClampNeg)).toInt (fwy (b.toNatClampNeg)).toInt ≠ 0 := (by unfold ovS; rw [if_neg c_65]; rw [elo] at c_229; omega); exact ⟨fun q => absurd (by rw [← e42]; exact c_52) q, fun _ => ⟨by unfold ovA; rw [if_neg c_65]; unfold ovl; rw [if_pos c_207], fun _ => ⟨by unfold ovX; dsimp only; rw [if_neg os, hc270.1.trans (add_rng (by omega) (by omega)), hc270.2]; exact FR_1 _, by unfold ovY; dsimp only; rw [if_neg os, hc304.1.trans (add_rng (by omega) (by omega)), hc304.2]; exact FR_1 _⟩⟩⟩) [0, 1, 2, 3, 4, 5, 6, 9, 7, 8, 10, 11] rfl (by decide) dX3_meetOfParallels_308 (Nat.le_of_ble_eq_true rfl) (Nat.le_of_ble_eq_true rfl)
        · have c_229 : (fsx (a.toNatClampNeg)).toInt = lo9.toInt := lc_eq c_229
          refine lv_iconst (v := 1) hx hb dX3_meetOfParallels_232 (by decide) ?_
          refine lv_goto (tgt := 237) hx hb dX3_meetOfParallels_233 (by decide) ?_
          refine lv_istore (lv' := [(16, .int 1), (14, .long hi9), (12, .long lo9), (10, .long ((fsx (b.toNatClampNeg)) + (fwx (b.toNatClampNeg)))), (8, .long (fsx (b.toNatClampNeg))), (6, .long ((fsx (a.toNatClampNeg)) + (fwx (a.toNatClampNeg)))), (4, .long (fsx (a.toNatClampNeg))), (3, .int 1), (0, .ref o), (1, .int a), (2, .int b)]) hx hb dX3_meetOfParallels_237 hl (by decide) rfl (fun ls hl => ?_)
          refine lv_aload_n hx hb dX3_meetOfParallels_239 rfl (lv_at hl 8 rfl) ?_
          refine va_get (D := D) (ci := 3) (v := .ref fx) (C := RX3) (T := TX3) (N := 15) hx hb hTB tb_X3 hown hK.1 hP 0 rfl rfl 9 (by decide) (hTB _ tb_2_1) (fun _ h9 => h9) rfl dX3_meetOfParallels_240 ?_
          refine lv_iload hx hb dX3_meetOfParallels_243 (lv_at hl 0 rfl) ?_
          refine lv_if_eq (tgt := 257) hx hb dX3_meetOfParallels_245 (by decide) (fun c_245 => absurd c_245 (by decide)) (fun c_245 => ?_)
          refine lv_aload_n hx hb dX3_meetOfParallels_248 rfl (lv_at hl 8 rfl) ?_
          refine va_get (D := D) (ci := 3) (v := .ref sx) (C := RX3) (T := TX3) (N := 15) hx hb hTB tb_X3 hown hK.1 hP 0 rfl rfl 1 (by decide) (hTB _ tb_1_16) (fun _ h9 => h9) rfl dX3_meetOfParallels_249 ?_
          refine lv_iload_n hx hb dX3_meetOfParallels_252 rfl (lv_at hl 9 rfl) ?_
          refine va_lald (f := fsx) hx hb hK.1 hP 1 2 rfl rfl (vp_in_iff.mpr ⟨by omega, by omega⟩) dX3_meetOfParallels_253 ?_
          refine lv_goto (tgt := 270) hx hb dX3_meetOfParallels_254 (by decide) ?_
          refine fin_v (wr := [(o, .inr (3, [.ref tl, .ref sx, .ref sy, .ref wx, .ref wy, .ref kx, .ref ky, .int cn, .int ph, .ref fx, .ref fy, .ref dv, .ref sp, .ref p1, .ref p2])), (sx, .inl (cJ, 16, .inr (.inl fsx))), (sy, .inl (cJ, 16, .inr (.inl fsy))), (wx, .inl (cJ, 16, .inr (.inl fwx))), (wy, .inl (cJ, 16, .inr (.inl fwy))), (fy, .inr (1, [.ref yu, .ref yl])), (yu, .inr (2, [.long ah, .long al])), (yl, .inr (2, [.long bh, .long bl])), (sp, .inr (2, [.long w42h, .long w42l]))]) (va_runV (As := [.long (fsx (a.toNatClampNeg))]) (rest := []) ⟨hx, hb, hml, hown, hTB⟩ (c_X1_putWhole l D cZ cI cJ fx xu xl uh ul vh vl (fsx (a.toNatClampNeg)) _) (cw_V hTB tb_9_5 tb_2_0 tb_9_2 tb_9_3 tb_9_4 nd_X1_putWhole rfl rfl ⟨Nat.le_of_ble_eq_true rfl, Nat.le_of_ble_eq_true rfl⟩) (pre_V (q0 := 5) hK hP hD [5, 7, 8] rfl rfl rfl rfl) rfl rfl hl.1 rfl (lv_room (Nat.le_of_ble_eq_true rfl)) dX3_meetOfParallels_270 ⟨Nat.le_of_ble_eq_true rfl, Nat.le_of_ble_eq_true rfl⟩) hP hD hS hA [5, 7, 8] [0, 1, 2, 3, 4, 6, 9, 10, 11] rfl rfl rfl (by decide) (fun u270 H locs hc270 hP hD hS => ?_)
          obtain ⟨⟨x270a, x270b⟩, x270c, x270d⟩ := u270
          dsimp only at hc270
          have hP : va_P D vwCl [(o, .inr (3, [.ref tl, .ref sx, .ref sy, .ref wx, .ref wy, .ref kx, .ref ky, .int cn, .int ph, .ref fx, .ref fy, .ref dv, .ref sp, .ref p1, .ref p2])), (sx, .inl (cJ, 16, .inr (.inl fsx))), (sy, .inl (cJ, 16, .inr (.inl fsy))), (wx, .inl (cJ, 16, .inr (.inl fwx))), (wy, .inl (cJ, 16, .inr (.inl fwy))), (fy, .inr (1, [.ref yu, .ref yl])), (yu, .inr (2, [.long ah, .long al])), (yl, .inr (2, [.long bh, .long bl])), (sp, .inr (2, [.long w42h, .long w42l])), (fx, .inr (1, [.ref xu, .ref xl])), (xu, .inr (2, [.long x270a, .long x270b])), (xl, .inr (2, [.long x270c, .long x270d]))] H := hP
          have hD : va_D A [(o, .inr (3, [.ref tl, .ref sx, .ref sy, .ref wx, .ref wy, .ref kx, .ref ky, .int cn, .int ph, .ref fx, .ref fy, .ref dv, .ref sp, .ref p1, .ref p2])), (sx, .inl (cJ, 16, .inr (.inl fsx))), (sy, .inl (cJ, 16, .inr (.inl fsy))), (wx, .inl (cJ, 16, .inr (.inl fwx))), (wy, .inl (cJ, 16, .inr (.inl fwy))), (fy, .inr (1, [.ref yu, .ref yl])), (yu, .inr (2, [.long ah, .long al])), (yl, .inr (2, [.long bh, .long bl])), (sp, .inr (2, [.long w42h, .long w42l])), (fx, .inr (1, [.ref xu, .ref xl])), (xu, .inr (2, [.long x270a, .long x270b])), (xl, .inr (2, [.long x270c, .long x270d]))] := hD
          refine lv_aload_n hx hb dX3_meetOfParallels_273 rfl (lv_at hl 8 rfl) ?_
          refine va_get (D := D) (ci := 3) (v := .ref fy) (C := RX3) (T := TX3) (N := 15) hx hb hTB tb_X3 hown hK.1 hP 0 rfl rfl 10 (by decide) (hTB _ tb_2_2) (fun _ h9 => h9) rfl dX3_meetOfParallels_274 ?_
          refine lv_iload hx hb dX3_meetOfParallels_277 (lv_at hl 0 rfl) ?_
          refine lv_if_eq (tgt := 291) hx hb dX3_meetOfParallels_279 (by decide) (fun c_279 => absurd c_279 (by decide)) (fun c_279 => ?_)
          refine lv_aload_n hx hb dX3_meetOfParallels_282 rfl (lv_at hl 8 rfl) ?_
          refine va_get (D := D) (ci := 3) (v := .ref sy) (C := RX3) (T := TX3) (N := 15) hx hb hTB tb_X3 hown hK.1 hP 0 rfl rfl 2 (by decide) (hTB _ tb_1_17) (fun _ h9 => h9) rfl dX3_meetOfParallels_283 ?_
          refine lv_iload_n hx hb dX3_meetOfParallels_286 rfl (lv_at hl 9 rfl) ?_
          refine va_lald (f := fsy) hx hb hK.1 hP 2 2 rfl rfl (vp_in_iff.mpr ⟨by omega, by omega⟩) dX3_meetOfParallels_287 ?_
          refine lv_goto (tgt := 304) hx hb dX3_meetOfParallels_288 (by decide) ?_
          refine fin_v (wr := [(o, .inr (3, [.ref tl, .ref sx, .ref sy, .ref wx, .ref wy, .ref kx, .ref ky, .int cn, .int ph, .ref fx, .ref fy, .ref dv, .ref sp, .ref p1, .ref p2])), (sx, .inl (cJ, 16, .inr (.inl fsx))), (sy, .inl (cJ, 16, .inr (.inl fsy))), (wx, .inl (cJ, 16, .inr (.inl fwx))), (wy, .inl (cJ, 16, .inr (.inl fwy))), (sp, .inr (2, [.long w42h, .long w42l])), (fx, .inr (1, [.ref xu, .ref xl])), (xu, .inr (2, [.long x270a, .long x270b])), (xl, .inr (2, [.long x270c, .long x270d]))]) (va_runV (As := [.long (fsy (a.toNatClampNeg))]) (rest := []) ⟨hx, hb, hml, hown, hTB⟩ (c_X1_putWhole l D cZ cI cJ fy yu yl ah al bh bl (fsy (a.toNatClampNeg)) _) (cw_V hTB tb_9_5 tb_2_0 tb_9_2 tb_9_3 tb_9_4 nd_X1_putWhole rfl rfl ⟨Nat.le_of_ble_eq_true rfl, Nat.le_of_ble_eq_true rfl⟩) (pre_V (q0 := 5) hK hP hD [5, 6, 7] rfl rfl rfl rfl) rfl rfl hl.1 rfl (lv_room (Nat.le_of_ble_eq_true rfl)) dX3_meetOfParallels_304 ⟨Nat.le_of_ble_eq_true rfl, Nat.le_of_ble_eq_true rfl⟩) hP hD hS hA [5, 6, 7] [0, 1, 2, 3, 4, 8, 9, 10, 11] rfl rfl rfl (by decide) (fun u304 H locs hc304 hP hD hS => ?_)
          obtain ⟨⟨x304a, x304b⟩, x304c, x304d⟩ := u304
          dsimp only at hc304
          have hP : va_P D vwCl [(o, .inr (3, [.ref tl, .ref sx, .ref sy, .ref wx, .ref wy, .ref kx, .ref ky, .int cn, .int ph, .ref fx, .ref fy, .ref dv, .ref sp, .ref p1, .ref p2])), (sx, .inl (cJ, 16, .inr (.inl fsx))), (sy, .inl (cJ, 16, .inr (.inl fsy))), (wx, .inl (cJ, 16, .inr (.inl fwx))), (wy, .inl (cJ, 16, .inr (.inl fwy))), (sp, .inr (2, [.long w42h, .long w42l])), (fx, .inr (1, [.ref xu, .ref xl])), (xu, .inr (2, [.long x270a, .long x270b])), (xl, .inr (2, [.long x270c, .long x270d])), (fy, .inr (1, [.ref yu, .ref yl])), (yu, .inr (2, [.long x304a, .long x304b])), (yl, .inr (2, [.long x304c, .long x304d]))] H := hP
          have hD : va_D A [(o, .inr (3, [.ref tl, .ref sx, .ref sy, .ref wx, .ref wy, .ref kx, .ref ky, .int cn, .int ph, .ref fx, .ref fy, .ref dv, .ref sp, .ref p1, .ref p2])), (sx, .inl (cJ, 16, .inr (.inl fsx))), (sy, .inl (cJ, 16, .inr (.inl fsy))), (wx, .inl (cJ, 16, .inr (.inl fwx))), (wy, .inl (cJ, 16, .inr (.inl fwy))), (sp, .inr (2, [.long w42h, .long w42l])), (fx, .inr (1, [.ref xu, .ref xl])), (xu, .inr (2, [.long x270a, .long x270b])), (xl, .inr (2, [.long x270c, .long x270d])), (fy, .inr (1, [.ref yu, .ref yl])), (yu, .inr (2, [.long x304a, .long x304b])), (yl, .inr (2, [.long x304c, .long x304d]))] := hD
          refine lv_iconst (v := 1) hx hb dX3_meetOfParallels_307 (by decide) ?_
          exact hret hP hD hS rfl ((w42h, w42l), (x270a, x270b), (x270c, x270d), (x304a, x304b), (x304c, x304d)) (by have os : ovS (fsx (a.toNatClampNeg)).toInt (fsy (a.toNatClampNeg)).toInt (fwx (a.toNatClampNeg)).toInt (fwy (a.toNatClampNeg)).toInt (fsx (b.toNatClampNeg)).toInt (fsy (b.toNatClampNeg)).toInt (fwx (b.toNatClampNeg)).toInt (fwy (b.toNatClampNeg)).toInt = 0 := (by unfold ovS; rw [if_neg c_65]; rw [elo] at c_229; omega); exact ⟨fun q => absurd (by rw [← e42]; exact c_52) q, fun _ => ⟨by unfold ovA; rw [if_neg c_65]; unfold ovl; rw [if_pos c_207], fun _ => ⟨by unfold ovX; dsimp only; rw [if_pos os, hc270.1, hc270.2]; exact FR_1 _, by unfold ovY; dsimp only; rw [if_pos os, hc304.1, hc304.2]; exact FR_1 _⟩⟩⟩) [0, 1, 2, 3, 4, 5, 6, 9, 7, 8, 10, 11] rfl (by decide) dX3_meetOfParallels_308 (Nat.le_of_ble_eq_true rfl) (Nat.le_of_ble_eq_true rfl)
      · have c_207 : lo9.toInt ≠ hi9.toInt := lc_ne c_207
        have a1 : (fsx (a.toNatClampNeg) + fwx (a.toNatClampNeg)).toInt = (fsx (a.toNatClampNeg)).toInt + (fwx (a.toNatClampNeg)).toInt := add_rng (by omega) (by omega)
        have a2 : (fsx (b.toNatClampNeg) + fwx (b.toNatClampNeg)).toInt = (fsx (b.toNatClampNeg)).toInt + (fwx (b.toNatClampNeg)).toInt := add_rng (by omega) (by omega)
        have elo : lo9.toInt = imx (imn (fsx (a.toNatClampNeg)).toInt ((fsx (a.toNatClampNeg)).toInt + (fwx (a.toNatClampNeg)).toInt)) (imn (fsx (b.toNatClampNeg)).toInt ((fsx (b.toNatClampNeg)).toInt + (fwx (b.toNatClampNeg)).toInt)) := by rw [elo9, max_toInt, min_toInt, min_toInt, a1, a2]; rfl
        have ehi : hi9.toInt = imn (imx (fsx (a.toNatClampNeg)).toInt ((fsx (a.toNatClampNeg)).toInt + (fwx (a.toNatClampNeg)).toInt)) (imx (fsx (b.toNatClampNeg)).toInt ((fsx (b.toNatClampNeg)).toInt + (fwx (b.toNatClampNeg)).toInt)) := by rw [ehi9, min_toInt, max_toInt, max_toInt, a1, a2]; rfl
        rw [elo, ehi] at c_207
        refine lv_lload hx hb dX3_meetOfParallels_210 (lv_at hl 1 rfl) ?_
        refine lv_lload hx hb dX3_meetOfParallels_212 (lv_at hl 0 rfl) ?_
        refine W.lcmp hx hb dX3_meetOfParallels_214 ?_
        refine lv_if_le (tgt := 222) hx hb dX3_meetOfParallels_215 (by decide) (fun c_215 => ?_) (fun c_215 => ?_)
        · have c_215 : lo9.toInt ≤ hi9.toInt := lc_le c_215
          refine lv_iconst (v := 2) hx hb dX3_meetOfParallels_222 (by decide) ?_
          exact hret hP hD hS rfl ((w42h, w42l), (uh, ul), (vh, vl), (ah, al), (bh, bl)) (⟨fun q => absurd (by rw [← e42]; exact c_52) q, fun _ => ⟨by unfold ovA; rw [if_neg c_65]; unfold ovl; rw [if_neg c_207, if_neg (by rw [elo, ehi] at c_215; omega)], fun q => absurd q (by decide)⟩⟩) [0, 1, 2, 3, 4, 11, 5, 6, 7, 8, 9, 10] rfl (by decide) dX3_meetOfParallels_223 (Nat.le_of_ble_eq_true rfl) (Nat.le_of_ble_eq_true rfl)
        · have c_215 : hi9.toInt < lo9.toInt := lc_nle c_215
          refine lv_iconst (v := 0) hx hb dX3_meetOfParallels_218 (by decide) ?_
          refine lv_goto (tgt := 223) hx hb dX3_meetOfParallels_219 (by decide) ?_
          exact hret hP hD hS rfl ((w42h, w42l), (uh, ul), (vh, vl), (ah, al), (bh, bl)) (⟨fun q => absurd (by rw [← e42]; exact c_52) q, fun _ => ⟨by unfold ovA; rw [if_neg c_65]; unfold ovl; rw [if_neg c_207, if_pos (by rw [elo, ehi] at c_215; exact c_215)], fun q => absurd q (by decide)⟩⟩) [0, 1, 2, 3, 4, 11, 5, 6, 7, 8, 9, 10] rfl (by decide) dX3_meetOfParallels_223 (Nat.le_of_ble_eq_true rfl) (Nat.le_of_ble_eq_true rfl)
  · have c_52 := sg_eqf c_52
    refine lv_iconst (v := 0) hx hb dX3_meetOfParallels_55 (by decide) ?_
    exact hret hP hD hS rfl ((w42h, w42l), (uh, ul), (vh, vl), (ah, al), (bh, bl)) (⟨fun _ => rfl, fun q => absurd (q) (by rw [← e42]; exact c_52)⟩) [0, 1, 2, 3, 4, 11, 5, 6, 7, 8, 9, 10] rfl (by decide) dX3_meetOfParallels_56 (Nat.le_of_ble_eq_true rfl) (Nat.le_of_ble_eq_true rfl)
end
