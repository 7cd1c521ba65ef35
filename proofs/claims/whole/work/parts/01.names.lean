-- ===== PART A: goes FIRST, ahead of the names: the tables' words, and 'selects' of the private methods out of them =====
/-- a private method of a class that the tables say can be made, by its rows of tables_1 -/
def lw_okq (q : MethodName × Nat) : Prop := (q.1.cls ≠ "java/lang/invoke/MethodHandle" ∧ q.1.cls ≠ "java/lang/invoke/VarHandle") ∧ Cond.instantiable q.1.cls q.2 ∈ tables_1 ∧ Cond.privateMethod q.1 ∈ tables_1 ∧ Cond.instanceMethod q.1 ∈ tables_1
theorem lw_p0 : lw_okq (⟨"PointerClones$Numbering", "findReached", "(LPointerClones$Program;)V"⟩, 5) := ⟨⟨by decide +kernel, by decide +kernel⟩, List.mem_of_getElem? (i := 95) (by decide +kernel), List.mem_of_getElem? (i := 251) (by decide +kernel), List.mem_of_getElem? (i := 252) (by decide +kernel)⟩
theorem lw_p1 : lw_okq (⟨"PointerClones$Numbering", "reckonCounts", "(LPointerClones$Program;)V"⟩, 5) := ⟨⟨by decide +kernel, by decide +kernel⟩, List.mem_of_getElem? (i := 95) (by decide +kernel), List.mem_of_getElem? (i := 258) (by decide +kernel), List.mem_of_getElem? (i := 259) (by decide +kernel)⟩
theorem lw_p2 : lw_okq (⟨"PointerClones$Numbering", "broughtBefore", "(LPointerClones$Program;II)I"⟩, 5) := ⟨⟨by decide +kernel, by decide +kernel⟩, List.mem_of_getElem? (i := 95) (by decide +kernel), List.mem_of_getElem? (i := 262) (by decide +kernel), List.mem_of_getElem? (i := 263) (by decide +kernel)⟩
theorem lw_p3 : lw_okq (⟨"PointerClones$Numbering", "isOuter", "(LPointerClones$Program;I)Z"⟩, 5) := ⟨⟨by decide +kernel, by decide +kernel⟩, List.mem_of_getElem? (i := 95) (by decide +kernel), List.mem_of_getElem? (i := 266) (by decide +kernel), List.mem_of_getElem? (i := 267) (by decide +kernel)⟩
theorem lw_p4 : lw_okq (⟨"PointerClones$Numbering", "areOfOneGroup", "(II)Z"⟩, 5) := ⟨⟨by decide +kernel, by decide +kernel⟩, List.mem_of_getElem? (i := 95) (by decide +kernel), List.mem_of_getElem? (i := 270) (by decide +kernel), List.mem_of_getElem? (i := 271) (by decide +kernel)⟩
theorem lw_p5 : lw_okq (⟨"PointerClones$Numbering", "keepReckoned", "(LPointerClones$Program;)V"⟩, 5) := ⟨⟨by decide +kernel, by decide +kernel⟩, List.mem_of_getElem? (i := 95) (by decide +kernel), List.mem_of_getElem? (i := 277) (by decide +kernel), List.mem_of_getElem? (i := 278) (by decide +kernel)⟩
theorem lw_p6 : lw_okq (⟨"PointerClones$Relations", "findWelcome", "(LPointerClones$Program;)V"⟩, 4) := ⟨⟨by decide +kernel, by decide +kernel⟩, List.mem_of_getElem? (i := 121) (by decide +kernel), List.mem_of_getElem? (i := 289) (by decide +kernel), List.mem_of_getElem? (i := 290) (by decide +kernel)⟩
theorem lw_p7 : lw_okq (⟨"PointerClones$Relations", "applyStatements", "(LPointerClones$Program;LPointerClones$Numbering;)V"⟩, 4) := ⟨⟨by decide +kernel, by decide +kernel⟩, List.mem_of_getElem? (i := 121) (by decide +kernel), List.mem_of_getElem? (i := 294) (by decide +kernel), List.mem_of_getElem? (i := 295) (by decide +kernel)⟩
theorem lw_p8 : lw_okq (⟨"PointerClones$Relations", "applyStatement", "(LPointerClones$Program;II)V"⟩, 4) := ⟨⟨by decide +kernel, by decide +kernel⟩, List.mem_of_getElem? (i := 121) (by decide +kernel), List.mem_of_getElem? (i := 299) (by decide +kernel), List.mem_of_getElem? (i := 300) (by decide +kernel)⟩
theorem lw_p9 : lw_okq (⟨"PointerClones$Relations", "addPointed", "(III)V"⟩, 4) := ⟨⟨by decide +kernel, by decide +kernel⟩, List.mem_of_getElem? (i := 121) (by decide +kernel), List.mem_of_getElem? (i := 303) (by decide +kernel), List.mem_of_getElem? (i := 304) (by decide +kernel)⟩
theorem lw_p10 : lw_okq (⟨"PointerClones$Relations", "addTo", "([III)V"⟩, 4) := ⟨⟨by decide +kernel, by decide +kernel⟩, List.mem_of_getElem? (i := 121) (by decide +kernel), List.mem_of_getElem? (i := 307) (by decide +kernel), List.mem_of_getElem? (i := 308) (by decide +kernel)⟩
theorem lw_p11 : lw_okq (⟨"PointerClones$Relations", "addHeld", "(III)V"⟩, 4) := ⟨⟨by decide +kernel, by decide +kernel⟩, List.mem_of_getElem? (i := 121) (by decide +kernel), List.mem_of_getElem? (i := 315) (by decide +kernel), List.mem_of_getElem? (i := 316) (by decide +kernel)⟩
theorem lw_p12 : lw_okq (⟨"PointerClones$Relations", "heldInAny", "(II)I"⟩, 4) := ⟨⟨by decide +kernel, by decide +kernel⟩, List.mem_of_getElem? (i := 121) (by decide +kernel), List.mem_of_getElem? (i := 319) (by decide +kernel), List.mem_of_getElem? (i := 320) (by decide +kernel)⟩
theorem lw_p13 : lw_okq (⟨"PointerClones$Relations", "applyCalls", "(LPointerClones$Program;LPointerClones$Numbering;)V"⟩, 4) := ⟨⟨by decide +kernel, by decide +kernel⟩, List.mem_of_getElem? (i := 121) (by decide +kernel), List.mem_of_getElem? (i := 327) (by decide +kernel), List.mem_of_getElem? (i := 328) (by decide +kernel)⟩
theorem lw_p14 : lw_okq (⟨"PointerClones$Relations", "applyPasses", "(LPointerClones$Program;III)V"⟩, 4) := ⟨⟨by decide +kernel, by decide +kernel⟩, List.mem_of_getElem? (i := 121) (by decide +kernel), List.mem_of_getElem? (i := 335) (by decide +kernel), List.mem_of_getElem? (i := 336) (by decide +kernel)⟩
theorem lw_p15 : lw_okq (⟨"PointerClones", "isVariableIn", "(II)Z"⟩, 5) := ⟨⟨by decide +kernel, by decide +kernel⟩, List.mem_of_getElem? (i := 12) (by decide +kernel), List.mem_of_getElem? (i := 356) (by decide +kernel), List.mem_of_getElem? (i := 357) (by decide +kernel)⟩
def lw_privs_1 : List (MethodName × Nat) := [(⟨"PointerClones$Numbering", "findReached", "(LPointerClones$Program;)V"⟩, 5), (⟨"PointerClones$Numbering", "reckonCounts", "(LPointerClones$Program;)V"⟩, 5), (⟨"PointerClones$Numbering", "broughtBefore", "(LPointerClones$Program;II)I"⟩, 5), (⟨"PointerClones$Numbering", "isOuter", "(LPointerClones$Program;I)Z"⟩, 5), (⟨"PointerClones$Numbering", "areOfOneGroup", "(II)Z"⟩, 5), (⟨"PointerClones$Numbering", "keepReckoned", "(LPointerClones$Program;)V"⟩, 5), (⟨"PointerClones$Relations", "findWelcome", "(LPointerClones$Program;)V"⟩, 4), (⟨"PointerClones$Relations", "applyStatements", "(LPointerClones$Program;LPointerClones$Numbering;)V"⟩, 4), (⟨"PointerClones$Relations", "applyStatement", "(LPointerClones$Program;II)V"⟩, 4), (⟨"PointerClones$Relations", "addPointed", "(III)V"⟩, 4), (⟨"PointerClones$Relations", "addTo", "([III)V"⟩, 4), (⟨"PointerClones$Relations", "addHeld", "(III)V"⟩, 4), (⟨"PointerClones$Relations", "heldInAny", "(II)I"⟩, 4), (⟨"PointerClones$Relations", "applyCalls", "(LPointerClones$Program;LPointerClones$Numbering;)V"⟩, 4), (⟨"PointerClones$Relations", "applyPasses", "(LPointerClones$Program;III)V"⟩, 4), (⟨"PointerClones", "isVariableIn", "(II)Z"⟩, 5)]
theorem lw_r1 : ∀ q ∈ lw_privs_1, lw_okq q := List.forall_mem_cons.mpr ⟨lw_p0, List.forall_mem_cons.mpr ⟨lw_p1, List.forall_mem_cons.mpr ⟨lw_p2, List.forall_mem_cons.mpr ⟨lw_p3, List.forall_mem_cons.mpr ⟨lw_p4, List.forall_mem_cons.mpr ⟨lw_p5, List.forall_mem_cons.mpr ⟨lw_p6, List.forall_mem_cons.mpr ⟨lw_p7, List.forall_mem_cons.mpr ⟨lw_p8, List.forall_mem_cons.mpr ⟨lw_p9, List.forall_mem_cons.mpr ⟨lw_p10, List.forall_mem_cons.mpr ⟨lw_p11, List.forall_mem_cons.mpr ⟨lw_p12, List.forall_mem_cons.mpr ⟨lw_p13, List.forall_mem_cons.mpr ⟨lw_p14, List.forall_mem_cons.mpr ⟨lw_p15, fun _ h => absurd h List.not_mem_nil⟩⟩⟩⟩⟩⟩⟩⟩⟩⟩⟩⟩⟩⟩⟩⟩
theorem lw_p16 : lw_okq (⟨"PointerClones$Diagram", "joinPairs", "(II)V"⟩, 6) := ⟨⟨by decide +kernel, by decide +kernel⟩, List.mem_of_getElem? (i := 140) (by decide +kernel), List.mem_of_getElem? (i := 413) (by decide +kernel), List.mem_of_getElem? (i := 414) (by decide +kernel)⟩
theorem lw_p17 : lw_okq (⟨"PointerClones$Diagram", "findNode", "(II)I"⟩, 6) := ⟨⟨by decide +kernel, by decide +kernel⟩, List.mem_of_getElem? (i := 140) (by decide +kernel), List.mem_of_getElem? (i := 417) (by decide +kernel), List.mem_of_getElem? (i := 418) (by decide +kernel)⟩
theorem lw_p18 : lw_okq (⟨"PointerClonesModel", "statement", "(IIII)I"⟩, 24) := ⟨⟨by decide +kernel, by decide +kernel⟩, List.mem_of_getElem? (i := 437) (by decide +kernel), List.mem_of_getElem? (i := 531) (by decide +kernel), List.mem_of_getElem? (i := 532) (by decide +kernel)⟩
theorem lw_p19 : lw_okq (⟨"PointerClonesModel", "reaches", "()V"⟩, 24) := ⟨⟨by decide +kernel, by decide +kernel⟩, List.mem_of_getElem? (i := 437) (by decide +kernel), List.mem_of_getElem? (i := 562) (by decide +kernel), List.mem_of_getElem? (i := 563) (by decide +kernel)⟩
theorem lw_p20 : lw_okq (⟨"PointerClonesModel", "count", "()Z"⟩, 24) := ⟨⟨by decide +kernel, by decide +kernel⟩, List.mem_of_getElem? (i := 437) (by decide +kernel), List.mem_of_getElem? (i := 566) (by decide +kernel), List.mem_of_getElem? (i := 567) (by decide +kernel)⟩
theorem lw_p21 : lw_okq (⟨"PointerClonesModel", "brought", "(II)I"⟩, 24) := ⟨⟨by decide +kernel, by decide +kernel⟩, List.mem_of_getElem? (i := 437) (by decide +kernel), List.mem_of_getElem? (i := 570) (by decide +kernel), List.mem_of_getElem? (i := 571) (by decide +kernel)⟩
theorem lw_p22 : lw_okq (⟨"PointerClonesModel", "isOuter", "(I)Z"⟩, 24) := ⟨⟨by decide +kernel, by decide +kernel⟩, List.mem_of_getElem? (i := 437) (by decide +kernel), List.mem_of_getElem? (i := 574) (by decide +kernel), List.mem_of_getElem? (i := 575) (by decide +kernel)⟩
theorem lw_p23 : lw_okq (⟨"PointerClonesModel", "group", "(II)Z"⟩, 24) := ⟨⟨by decide +kernel, by decide +kernel⟩, List.mem_of_getElem? (i := 437) (by decide +kernel), List.mem_of_getElem? (i := 578) (by decide +kernel), List.mem_of_getElem? (i := 579) (by decide +kernel)⟩
theorem lw_p24 : lw_okq (⟨"PointerClonesModel", "round", "()Z"⟩, 24) := ⟨⟨by decide +kernel, by decide +kernel⟩, List.mem_of_getElem? (i := 437) (by decide +kernel), List.mem_of_getElem? (i := 582) (by decide +kernel), List.mem_of_getElem? (i := 583) (by decide +kernel)⟩
theorem lw_p25 : lw_okq (⟨"PointerClonesModel", "follow", "(II)Z"⟩, 24) := ⟨⟨by decide +kernel, by decide +kernel⟩, List.mem_of_getElem? (i := 437) (by decide +kernel), List.mem_of_getElem? (i := 586) (by decide +kernel), List.mem_of_getElem? (i := 587) (by decide +kernel)⟩
theorem lw_p26 : lw_okq (⟨"PointerClonesModel", "more", "(III)Z"⟩, 24) := ⟨⟨by decide +kernel, by decide +kernel⟩, List.mem_of_getElem? (i := 437) (by decide +kernel), List.mem_of_getElem? (i := 590) (by decide +kernel), List.mem_of_getElem? (i := 591) (by decide +kernel)⟩
theorem lw_p27 : lw_okq (⟨"PointerClonesModel", "fitting", "(I)I"⟩, 24) := ⟨⟨by decide +kernel, by decide +kernel⟩, List.mem_of_getElem? (i := 437) (by decide +kernel), List.mem_of_getElem? (i := 594) (by decide +kernel), List.mem_of_getElem? (i := 595) (by decide +kernel)⟩
theorem lw_p28 : lw_okq (⟨"PointerClonesModel", "holdMore", "(III)Z"⟩, 24) := ⟨⟨by decide +kernel, by decide +kernel⟩, List.mem_of_getElem? (i := 437) (by decide +kernel), List.mem_of_getElem? (i := 598) (by decide +kernel), List.mem_of_getElem? (i := 599) (by decide +kernel)⟩
theorem lw_p29 : lw_okq (⟨"PointerClonesModel", "held", "(II)I"⟩, 24) := ⟨⟨by decide +kernel, by decide +kernel⟩, List.mem_of_getElem? (i := 437) (by decide +kernel), List.mem_of_getElem? (i := 602) (by decide +kernel), List.mem_of_getElem? (i := 603) (by decide +kernel)⟩
theorem lw_p30 : lw_okq (⟨"PointerClonesModel", "carry", "(II)Z"⟩, 24) := ⟨⟨by decide +kernel, by decide +kernel⟩, List.mem_of_getElem? (i := 437) (by decide +kernel), List.mem_of_getElem? (i := 606) (by decide +kernel), List.mem_of_getElem? (i := 607) (by decide +kernel)⟩
theorem lw_p31 : lw_okq (⟨"PointerClonesModel", "isContext", "(II)Z"⟩, 24) := ⟨⟨by decide +kernel, by decide +kernel⟩, List.mem_of_getElem? (i := 437) (by decide +kernel), List.mem_of_getElem? (i := 617) (by decide +kernel), List.mem_of_getElem? (i := 618) (by decide +kernel)⟩
def lw_privs_2 : List (MethodName × Nat) := [(⟨"PointerClones$Diagram", "joinPairs", "(II)V"⟩, 6), (⟨"PointerClones$Diagram", "findNode", "(II)I"⟩, 6), (⟨"PointerClonesModel", "statement", "(IIII)I"⟩, 24), (⟨"PointerClonesModel", "reaches", "()V"⟩, 24), (⟨"PointerClonesModel", "count", "()Z"⟩, 24), (⟨"PointerClonesModel", "brought", "(II)I"⟩, 24), (⟨"PointerClonesModel", "isOuter", "(I)Z"⟩, 24), (⟨"PointerClonesModel", "group", "(II)Z"⟩, 24), (⟨"PointerClonesModel", "round", "()Z"⟩, 24), (⟨"PointerClonesModel", "follow", "(II)Z"⟩, 24), (⟨"PointerClonesModel", "more", "(III)Z"⟩, 24), (⟨"PointerClonesModel", "fitting", "(I)I"⟩, 24), (⟨"PointerClonesModel", "holdMore", "(III)Z"⟩, 24), (⟨"PointerClonesModel", "held", "(II)I"⟩, 24), (⟨"PointerClonesModel", "carry", "(II)Z"⟩, 24), (⟨"PointerClonesModel", "isContext", "(II)Z"⟩, 24)]
theorem lw_r2 : ∀ q ∈ lw_privs_2, lw_okq q := List.forall_mem_cons.mpr ⟨lw_p16, List.forall_mem_cons.mpr ⟨lw_p17, List.forall_mem_cons.mpr ⟨lw_p18, List.forall_mem_cons.mpr ⟨lw_p19, List.forall_mem_cons.mpr ⟨lw_p20, List.forall_mem_cons.mpr ⟨lw_p21, List.forall_mem_cons.mpr ⟨lw_p22, List.forall_mem_cons.mpr ⟨lw_p23, List.forall_mem_cons.mpr ⟨lw_p24, List.forall_mem_cons.mpr ⟨lw_p25, List.forall_mem_cons.mpr ⟨lw_p26, List.forall_mem_cons.mpr ⟨lw_p27, List.forall_mem_cons.mpr ⟨lw_p28, List.forall_mem_cons.mpr ⟨lw_p29, List.forall_mem_cons.mpr ⟨lw_p30, List.forall_mem_cons.mpr ⟨lw_p31, fun _ h => absurd h List.not_mem_nil⟩⟩⟩⟩⟩⟩⟩⟩⟩⟩⟩⟩⟩⟩⟩⟩
theorem lw_p32 : lw_okq (⟨"PointerClonesModel", "fill", "(I)V"⟩, 24) := ⟨⟨by decide +kernel, by decide +kernel⟩, List.mem_of_getElem? (i := 437) (by decide +kernel), List.mem_of_getElem? (i := 645) (by decide +kernel), List.mem_of_getElem? (i := 646) (by decide +kernel)⟩
theorem lw_p33 : lw_okq (⟨"PointerClonesModel", "index", "(IIIIII)I"⟩, 24) := ⟨⟨by decide +kernel, by decide +kernel⟩, List.mem_of_getElem? (i := 437) (by decide +kernel), List.mem_of_getElem? (i := 649) (by decide +kernel), List.mem_of_getElem? (i := 650) (by decide +kernel)⟩
theorem lw_p34 : lw_okq (⟨"PointerClonesModel", "number", "(I)I"⟩, 24) := ⟨⟨by decide +kernel, by decide +kernel⟩, List.mem_of_getElem? (i := 437) (by decide +kernel), List.mem_of_getElem? (i := 653) (by decide +kernel), List.mem_of_getElem? (i := 654) (by decide +kernel)⟩
theorem lw_p35 : lw_okq (⟨"PointerClonesModel", "same", "(III)Z"⟩, 24) := ⟨⟨by decide +kernel, by decide +kernel⟩, List.mem_of_getElem? (i := 437) (by decide +kernel), List.mem_of_getElem? (i := 657) (by decide +kernel), List.mem_of_getElem? (i := 658) (by decide +kernel)⟩
def lw_privs_3 : List (MethodName × Nat) := [(⟨"PointerClonesModel", "fill", "(I)V"⟩, 24), (⟨"PointerClonesModel", "index", "(IIIIII)I"⟩, 24), (⟨"PointerClonesModel", "number", "(I)I"⟩, 24), (⟨"PointerClonesModel", "same", "(III)Z"⟩, 24)]
theorem lw_r3 : ∀ q ∈ lw_privs_3, lw_okq q := List.forall_mem_cons.mpr ⟨lw_p32, List.forall_mem_cons.mpr ⟨lw_p33, List.forall_mem_cons.mpr ⟨lw_p34, List.forall_mem_cons.mpr ⟨lw_p35, fun _ h => absurd h List.not_mem_nil⟩⟩⟩⟩
def lw_privs : List (MethodName × Nat) := lw_privs_1 ++ (lw_privs_2 ++ (lw_privs_3))
def lw_tbl : List Cond := k2_sels lw_privs ++ tables_1
theorem lw_privs_ok : ∀ q ∈ lw_privs, lw_okq q := by
  show ∀ q ∈ lw_privs_1 ++ (lw_privs_2 ++ (lw_privs_3)), lw_okq q
  exact List.forall_mem_append.mpr ⟨lw_r1, List.forall_mem_append.mpr ⟨lw_r2, lw_r3⟩⟩
def R_P : String := "PointerClones"
def R_G : String := "PointerClones$Program"
def R_N : String := "PointerClones$Numbering"
def R_T : String := "PointerClones$Relations"
def R_D : String := "PointerClones$Diagram"
def R_M : String := "PointerClonesModel"
def R_A : String := "java/util/Arrays"
def R_I : String := "java/lang/Integer"
def R_L : String := "PointerClonesLaw"
def F_P : u_T := fun k => match k with
  | 0 => (R_P, "program", "LPointerClones$Program;", true)
  | 1 => (R_P, "numbering", "LPointerClones$Numbering;", true)
  | 2 => (R_P, "relations", "LPointerClones$Relations;", true)
  | 3 => (R_P, "diagram", "LPointerClones$Diagram;", true)
  | _ => (R_P, "orderSet", "I", false)
def tf_P : Nat → FieldType := fun k => match k with
  | 0 => .object "PointerClones$Program"
  | 1 => .object "PointerClones$Numbering"
  | 2 => .object "PointerClones$Relations"
  | 3 => .object "PointerClones$Diagram"
  | _ => .int
theorem nn_P : ∀ a, a < 5 → ∀ b, b < 5 → a ≠ b → (F_P a).2.1 ≠ (F_P b).2.1 := by decide +kernel
theorem tt_P : ∀ k, k < 5 → parseFieldDescriptor (F_P k).2.2.1 = some (tf_P k) := by decide +kernel
def F_G : u_T := fun k => match k with
  | 0 => (R_G, "kindOf", "[I", true)
  | 1 => (R_G, "acceptedBy", "[I", true)
  | 2 => (R_G, "statements", "I", false)
  | 3 => (R_G, "form", "[I", true)
  | 4 => (R_G, "left", "[I", true)
  | 5 => (R_G, "right", "[I", true)
  | 6 => (R_G, "field", "[I", true)
  | 7 => (R_G, "calls", "I", false)
  | 8 => (R_G, "calling", "[I", true)
  | 9 => (R_G, "called", "[I", true)
  | 10 => (R_G, "passesOf", "[I", true)
  | 11 => (R_G, "passTo", "[I", true)
  | 12 => (R_G, "passFrom", "[I", true)
  | _ => (R_G, "passBack", "[Z", true)
def tf_G : Nat → FieldType := fun k => match k with
  | 0 => .array .int
  | 1 => .array .int
  | 2 => .int
  | 3 => .array .int
  | 4 => .array .int
  | 5 => .array .int
  | 6 => .array .int
  | 7 => .int
  | 8 => .array .int
  | 9 => .array .int
  | 10 => .array .int
  | 11 => .array .int
  | 12 => .array .int
  | _ => .array .boolean
theorem nn_G : ∀ a, a < 14 → ∀ b, b < 14 → a ≠ b → (F_G a).2.1 ≠ (F_G b).2.1 := by decide +kernel
theorem tt_G : ∀ k, k < 14 → parseFieldDescriptor (F_G k).2.2.1 = some (tf_G k) := by decide +kernel
def F_N : u_T := fun k => match k with
  | 0 => (R_N, "countOf", "[I", true)
  | 1 => (R_N, "firstBy", "[I", true)
  | 2 => (R_N, "calls", "I", false)
  | 3 => (R_N, "reachedFrom", "[I", true)
  | _ => (R_N, "reckoned", "[I", true)
def tf_N : Nat → FieldType := fun k => match k with
  | 0 => .array .int
  | 1 => .array .int
  | 2 => .int
  | 3 => .array .int
  | _ => .array .int
theorem nn_N : ∀ a, a < 5 → ∀ b, b < 5 → a ≠ b → (F_N a).2.1 ≠ (F_N b).2.1 := by decide +kernel
theorem tt_N : ∀ k, k < 5 → parseFieldDescriptor (F_N k).2.2.1 = some (tf_N k) := by decide +kernel
def F_T : u_T := fun k => match k with
  | 0 => (R_T, "pointed", "[I", true)
  | 1 => (R_T, "held", "[I", true)
  | 2 => (R_T, "welcomeTo", "[I", true)
  | _ => (R_T, "grown", "Z", false)
def tf_T : Nat → FieldType := fun k => match k with
  | 0 => .array .int
  | 1 => .array .int
  | 2 => .array .int
  | _ => .boolean
theorem nn_T : ∀ a, a < 4 → ∀ b, b < 4 → a ≠ b → (F_T a).2.1 ≠ (F_T b).2.1 := by decide +kernel
theorem tt_T : ∀ k, k < 4 → parseFieldDescriptor (F_T k).2.2.1 = some (tf_T k) := by decide +kernel
def F_D : u_T := fun k => match k with
  | 0 => (R_D, "shiftOf", "[I", true)
  | 1 => (R_D, "functions", "[I", true)
  | 2 => (R_D, "rows", "I", false)
  | 3 => (R_D, "ifZero", "[I", true)
  | 4 => (R_D, "ifOne", "[I", true)
  | _ => (R_D, "found", "I", false)
def tf_D : Nat → FieldType := fun k => match k with
  | 0 => .array .int
  | 1 => .array .int
  | 2 => .int
  | 3 => .array .int
  | 4 => .array .int
  | _ => .int
theorem nn_D : ∀ a, a < 6 → ∀ b, b < 6 → a ≠ b → (F_D a).2.1 ≠ (F_D b).2.1 := by decide +kernel
theorem tt_D : ∀ k, k < 6 → parseFieldDescriptor (F_D k).2.2.1 = some (tf_D k) := by decide +kernel
def F_M : u_T := fun k => match k with
  | 0 => (R_M, "kinds", "[I", true)
  | 1 => (R_M, "accepted", "[I", true)
  | 2 => (R_M, "statements", "I", false)
  | 3 => (R_M, "what", "[I", true)
  | 4 => (R_M, "to", "[I", true)
  | 5 => (R_M, "from", "[I", true)
  | 6 => (R_M, "field", "[I", true)
  | 7 => (R_M, "calls", "I", false)
  | 8 => (R_M, "calling", "[I", true)
  | 9 => (R_M, "called", "[I", true)
  | 10 => (R_M, "passes", "[I", true)
  | 11 => (R_M, "passTo", "[I", true)
  | 12 => (R_M, "passFrom", "[I", true)
  | 13 => (R_M, "passBack", "[Z", true)
  | 14 => (R_M, "reach", "[Z", true)
  | 15 => (R_M, "fresh", "[I", true)
  | 16 => (R_M, "many", "[I", true)
  | 17 => (R_M, "solvedCalls", "I", false)
  | 18 => (R_M, "base", "[I", true)
  | 19 => (R_M, "solvedCalling", "[I", true)
  | 20 => (R_M, "points", "[I", true)
  | 21 => (R_M, "holds", "[I", true)
  | 22 => (R_M, "order", "I", false)
  | _ => (R_M, "row", "[Z", true)
def tf_M : Nat → FieldType := fun k => match k with
  | 0 => .array .int
  | 1 => .array .int
  | 2 => .int
  | 3 => .array .int
  | 4 => .array .int
  | 5 => .array .int
  | 6 => .array .int
  | 7 => .int
  | 8 => .array .int
  | 9 => .array .int
  | 10 => .array .int
  | 11 => .array .int
  | 12 => .array .int
  | 13 => .array .boolean
  | 14 => .array .boolean
  | 15 => .array .int
  | 16 => .array .int
  | 17 => .int
  | 18 => .array .int
  | 19 => .array .int
  | 20 => .array .int
  | 21 => .array .int
  | 22 => .int
  | _ => .array .boolean
theorem nn_M : ∀ a, a < 24 → ∀ b, b < 24 → a ≠ b → (F_M a).2.1 ≠ (F_M b).2.1 := by decide +kernel
theorem tt_M : ∀ k, k < 24 → parseFieldDescriptor (F_M k).2.2.1 = some (tf_M k) := by decide +kernel
abbrev cl_ : List vw_C := [(R_P, F_P, 5), (R_G, F_G, 14), (R_N, F_N, 5), (R_T, F_T, 4), (R_D, F_D, 6), (R_M, F_M, 24)]
abbrev kd_ : Type := (Bool × Nat) ⊕ (Nat × List (Bool × Nat))
/-- the cells: objects by their class and fields (a cell, or an own number), arrays by kind and length -/
def dz_ : List kd_ := [.inr (0, [(true, 1), (true, 2), (true, 3), (true, 4), (false, 4)]), .inr (1, [(true, 5), (true, 6), (false, 2), (true, 7), (true, 8), (true, 9), (true, 10), (false, 7), (true, 11), (true, 12), (true, 13), (true, 14), (true, 15), (true, 16)]), .inr (2, [(true, 17), (true, 18), (false, 2), (true, 19), (true, 20)]), .inr (3, [(true, 21), (true, 22), (true, 23), (false, 3)]), .inr (4, [(true, 24), (true, 25), (false, 2), (true, 26), (true, 27), (false, 5)]), .inl (false, 8), .inl (false, 16), .inl (false, 40), .inl (false, 40), .inl (false, 40), .inl (false, 40), .inl (false, 8), .inl (false, 8), .inl (false, 8), .inl (false, 32), .inl (false, 32), .inl (true, 32), .inl (false, 4), .inl (false, 8), .inl (false, 4), .inl (false, 4), .inl (false, 128), .inl (false, 16), .inl (false, 16), .inl (false, 3), .inl (false, 1024), .inl (false, 512), .inl (false, 512), .inr (5, [(true, 29), (true, 30), (false, 2), (true, 31), (true, 32), (true, 33), (true, 34), (false, 7), (true, 35), (true, 36), (true, 37), (true, 38), (true, 39), (true, 40), (true, 41), (true, 42), (true, 43), (false, 17), (true, 44), (true, 45), (true, 46), (true, 47), (false, 22), (true, 48)]), .inl (false, 8), .inl (false, 16), .inl (false, 40), .inl (false, 40), .inl (false, 40), .inl (false, 40), .inl (false, 8), .inl (false, 8), .inl (false, 8), .inl (false, 32), .inl (false, 32), .inl (true, 32), .inl (true, 16), .inl (false, 4), .inl (false, 4), .inl (false, 8), .inl (false, 8), .inl (false, 128), .inl (false, 16), .inl (true, 1024)]
def bitT : List Nat := [3, 4, 3, 3, 1, 3]
def staT : List Nat := [0, 1, 2, 0, 2, 1, 1, 0, 2, 1, 2, 0, 2, 0, 1, 2, 1, 0]
def ak_ : List Cond := lw_tbl.filter goodWord
theorem ak_ok : ∀ w ∈ ak_, (w.onTables && w.keeps) = true ∨ ∃ ty, w = .arrayClass ty := fun w h => good_of_word (List.mem_filter.mp h).2
def nw_ : List Cond := [.fieldLinkNest R_P 45 R_G "kindOf" "[I" R_P, .fieldLinkNest R_T 57 R_G "kindOf" "[I" R_P, .fieldLinkNest R_P 49 R_G "acceptedBy" "[I" R_P, .fieldLinkNest R_T 52 R_G "acceptedBy" "[I" R_P, .fieldLinkNest R_T 64 R_G "statements" "I" R_P, .fieldLinkNest R_P 113 R_G "statements" "I" R_P, .fieldLinkNest R_T 89 R_G "form" "[I" R_P, .fieldLinkNest R_T 73 R_G "left" "[I" R_P, .fieldLinkNest R_T 83 R_G "right" "[I" R_P, .fieldLinkNest R_T 86 R_G "field" "[I" R_P, .fieldLinkNest R_N 44 R_G "calls" "I" R_P, .fieldLinkNest R_T 106 R_G "calls" "I" R_P, .fieldLinkNest R_P 116 R_G "calls" "I" R_P, .fieldLinkNest R_N 47 R_G "calling" "[I" R_P, .fieldLinkNest R_T 109 R_G "calling" "[I" R_P, .fieldLinkNest R_P 97 R_G "calling" "[I" R_P, .fieldLinkNest R_N 50 R_G "called" "[I" R_P, .fieldLinkNest R_T 119 R_G "passesOf" "[I" R_P, .fieldLinkNest R_T 122 R_G "passTo" "[I" R_P, .fieldLinkNest R_T 125 R_G "passFrom" "[I" R_P, .fieldLinkNest R_T 128 R_G "passBack" "[Z" R_P, .fieldLinkNest R_T 68 R_N "countOf" "[I" R_P, .fieldLinkNest R_P 91 R_N "countOf" "[I" R_P, .fieldLinkNest R_P 94 R_N "calls" "I" R_P, .methodLinkNest R_P 25 ⟨R_T, "<init>", "()V"⟩ R_P, .methodLinkNest R_P 32 ⟨R_D, "<init>", "()V"⟩ R_P, .methodLinkNest R_G 62 ⟨R_P, "isWithin", "(II)Z"⟩ R_P, .methodLinkNest R_G 66 ⟨R_P, "isOfMethod", "(II)Z"⟩ R_P, .methodLinkNest R_N 53 ⟨R_P, "hasBit", "(II)Z"⟩ R_P, .methodLinkNest R_T 60 ⟨R_P, "hasBit", "(II)Z"⟩ R_P, .methodLinkNest R_T 76 ⟨R_P, "methodOf", "(I)I"⟩ R_P]
theorem nw_in : ∀ w ∈ nw_, w ∈ lw_tbl := by decide +kernel
def isN : Cond → Bool
  | .fieldLinkNest .. => true
  | .methodLinkNest .. => true
  | _ => false
theorem nw_is : ∀ w ∈ nw_, isN w = true := by decide +kernel
def wz_ (y : MethodName) (cc : ByteArray) (n : Nat) (ret : Option FieldType) : List Cond := Cond.code y cc n ret :: ak_
theorem in_P : ∀ w ∈ u_ws R_P F_P 5, w ∈ ak_ := by decide +kernel
theorem in_G : ∀ w ∈ u_ws R_G F_G 14, w ∈ ak_ := by decide +kernel
theorem in_N : ∀ w ∈ u_ws R_N F_N 5, w ∈ ak_ := by decide +kernel
theorem in_T : ∀ w ∈ u_ws R_T F_T 4, w ∈ ak_ := by decide +kernel
theorem in_D : ∀ w ∈ u_ws R_D F_D 6, w ∈ ak_ := by decide +kernel
theorem in_M : ∀ w ∈ u_ws R_M F_M 24, w ∈ ak_ := by decide +kernel
theorem pl_P : plainName R_P = true := by decide
theorem pl_G : plainName R_G = true := by decide
theorem pl_N : plainName R_N = true := by decide
theorem pl_T : plainName R_T = true := by decide
theorem pl_D : plainName R_D = true := by decide
theorem pl_M : plainName R_M = true := by decide
theorem pl_A : plainName R_A = true := by decide
theorem pl_I : plainName R_I = true := by decide
abbrev b_A_fill : ByteArray := prog_11_method_103_code
def y_A_fill : MethodName := ⟨R_A, "fill", "([II)V"⟩
abbrev w_A_fill : List Cond := wz_ y_A_fill b_A_fill 4 none
abbrev b_D_countNodes : ByteArray := prog_2_method_4_code
def y_D_countNodes : MethodName := ⟨R_D, "countNodes", "()I"⟩
abbrev w_D_countNodes : List Cond := wz_ y_D_countNodes b_D_countNodes 3 (some .int)
abbrev b_D_findNode : ByteArray := prog_2_method_6_code
def y_D_findNode : MethodName := ⟨R_D, "findNode", "(II)I"⟩
abbrev w_D_findNode : List Cond := wz_ y_D_findNode b_D_findNode 4 (some .int)
abbrev b_D_joinPairs : ByteArray := prog_2_method_5_code
def y_D_joinPairs : MethodName := ⟨R_D, "joinPairs", "(II)V"⟩
abbrev w_D_joinPairs : List Cond := wz_ y_D_joinPairs b_D_joinPairs 6 none
abbrev b_G_addCall : ByteArray := prog_4_method_3_code
def y_G_addCall : MethodName := ⟨R_G, "addCall", "(II)I"⟩
abbrev w_G_addCall : List Cond := wz_ y_G_addCall b_G_addCall 3 (some .int)
abbrev b_G_addPass : ByteArray := prog_4_method_5_code
def y_G_addPass : MethodName := ⟨R_G, "addPass", "(IIIZ)I"⟩
abbrev w_G_addPass : List Cond := wz_ y_G_addPass b_G_addPass 6 (some .int)
abbrev b_G_addStatement : ByteArray := prog_4_method_2_code
def y_G_addStatement : MethodName := ⟨R_G, "addStatement", "(IIII)I"⟩
abbrev w_G_addStatement : List Cond := wz_ y_G_addStatement b_G_addStatement 5 (some .int)
abbrev b_G_countPasses : ByteArray := prog_4_method_6_code
def y_G_countPasses : MethodName := ⟨R_G, "countPasses", "()I"⟩
abbrev w_G_countPasses : List Cond := wz_ y_G_countPasses b_G_countPasses 3 (some .int)
abbrev b_G_mayPass : ByteArray := prog_4_method_4_code
def y_G_mayPass : MethodName := ⟨R_G, "mayPass", "(IIIZ)Z"⟩
abbrev w_G_mayPass : List Cond := wz_ y_G_mayPass b_G_mayPass 5 (some .boolean)
abbrev b_M_accept : ByteArray := prog_7_method_4_code
def y_M_accept : MethodName := ⟨R_M, "accept", "(II)Z"⟩
abbrev w_M_accept : List Cond := wz_ y_M_accept b_M_accept 3 (some .boolean)
abbrev b_M_alias : ByteArray := prog_7_method_32_code
def y_M_alias : MethodName := ⟨R_M, "alias", "(IIII)Z"⟩
abbrev w_M_alias : List Cond := wz_ y_M_alias b_M_alias 5 (some .boolean)
abbrev b_M_call : ByteArray := prog_7_method_11_code
def y_M_call : MethodName := ⟨R_M, "call", "(II)I"⟩
abbrev w_M_call : List Cond := wz_ y_M_call b_M_call 3 (some .int)
abbrev b_M_context : ByteArray := prog_7_method_31_code
def y_M_context : MethodName := ⟨R_M, "context", "(II)I"⟩
abbrev w_M_context : List Cond := wz_ y_M_context b_M_context 3 (some .int)
abbrev b_M_contexts : ByteArray := prog_7_method_30_code
def y_M_contexts : MethodName := ⟨R_M, "contexts", "(I)I"⟩
abbrev w_M_contexts : List Cond := wz_ y_M_contexts b_M_contexts 2 (some .int)
abbrev b_M_copy : ByteArray := prog_7_method_8_code
def y_M_copy : MethodName := ⟨R_M, "copy", "(II)I"⟩
abbrev w_M_copy : List Cond := wz_ y_M_copy b_M_copy 3 (some .int)
abbrev b_M_holds : ByteArray := prog_7_method_29_code
def y_M_holds : MethodName := ⟨R_M, "holds", "(II)I"⟩
abbrev w_M_holds : List Cond := wz_ y_M_holds b_M_holds 3 (some .int)
abbrev b_M_in : ByteArray := prog_7_method_2_code
def y_M_in : MethodName := ⟨R_M, "in", "(II)Z"⟩
abbrev w_M_in : List Cond := wz_ y_M_in b_M_in 2 (some .boolean)
abbrev b_M_isContext : ByteArray := prog_7_method_27_code
def y_M_isContext : MethodName := ⟨R_M, "isContext", "(II)Z"⟩
abbrev w_M_isContext : List Cond := wz_ y_M_isContext b_M_isContext 3 (some .boolean)
abbrev b_M_kind : ByteArray := prog_7_method_3_code
def y_M_kind : MethodName := ⟨R_M, "kind", "(II)Z"⟩
abbrev w_M_kind : List Cond := wz_ y_M_kind b_M_kind 3 (some .boolean)
abbrev b_M_load : ByteArray := prog_7_method_10_code
def y_M_load : MethodName := ⟨R_M, "load", "(III)I"⟩
abbrev w_M_load : List Cond := wz_ y_M_load b_M_load 4 (some .int)
abbrev b_M_make : ByteArray := prog_7_method_7_code
def y_M_make : MethodName := ⟨R_M, "make", "(II)I"⟩
abbrev w_M_make : List Cond := wz_ y_M_make b_M_make 3 (some .int)
abbrev b_M_order : ByteArray := prog_7_method_33_code
def y_M_order : MethodName := ⟨R_M, "order", "(I)Z"⟩
abbrev w_M_order : List Cond := wz_ y_M_order b_M_order 2 (some .boolean)
abbrev b_M_points : ByteArray := prog_7_method_28_code
def y_M_points : MethodName := ⟨R_M, "points", "(II)I"⟩
abbrev w_M_points : List Cond := wz_ y_M_points b_M_points 3 (some .int)
abbrev b_M_statement : ByteArray := prog_7_method_5_code
def y_M_statement : MethodName := ⟨R_M, "statement", "(IIII)I"⟩
abbrev w_M_statement : List Cond := wz_ y_M_statement b_M_statement 5 (some .int)
abbrev b_M_store : ByteArray := prog_7_method_9_code
def y_M_store : MethodName := ⟨R_M, "store", "(III)I"⟩
abbrev w_M_store : List Cond := wz_ y_M_store b_M_store 4 (some .int)
abbrev b_M_together : ByteArray := prog_7_method_6_code
def y_M_together : MethodName := ⟨R_M, "together", "(II)Z"⟩
abbrev w_M_together : List Cond := wz_ y_M_together b_M_together 2 (some .boolean)
abbrev b_N_areOfOneGroup : ByteArray := prog_3_method_9_code
def y_N_areOfOneGroup : MethodName := ⟨R_N, "areOfOneGroup", "(II)Z"⟩
abbrev w_N_areOfOneGroup : List Cond := wz_ y_N_areOfOneGroup b_N_areOfOneGroup 3 (some .boolean)
abbrev b_N_broughtBefore : ByteArray := prog_3_method_6_code
def y_N_broughtBefore : MethodName := ⟨R_N, "broughtBefore", "(LPointerClones$Program;II)I"⟩
abbrev w_N_broughtBefore : List Cond := wz_ y_N_broughtBefore b_N_broughtBefore 6 (some .int)
abbrev b_N_contextBy : ByteArray := prog_3_method_2_code
def y_N_contextBy : MethodName := ⟨R_N, "contextBy", "(II)I"⟩
abbrev w_N_contextBy : List Cond := wz_ y_N_contextBy b_N_contextBy 3 (some .int)
abbrev b_N_findReached : ByteArray := prog_3_method_4_code
def y_N_findReached : MethodName := ⟨R_N, "findReached", "(LPointerClones$Program;)V"⟩
abbrev w_N_findReached : List Cond := wz_ y_N_findReached b_N_findReached 4 none
abbrev b_N_isOuter : ByteArray := prog_3_method_8_code
def y_N_isOuter : MethodName := ⟨R_N, "isOuter", "(LPointerClones$Program;I)Z"⟩
abbrev w_N_isOuter : List Cond := wz_ y_N_isOuter b_N_isOuter 3 (some .boolean)
abbrev b_P_accept : ByteArray := prog_1_method_3_code
def y_P_accept : MethodName := ⟨R_P, "accept", "(II)Z"⟩
abbrev w_P_accept : List Cond := wz_ y_P_accept b_P_accept 3 (some .boolean)
abbrev b_P_alias : ByteArray := prog_1_method_15_code
def y_P_alias : MethodName := ⟨R_P, "alias", "(IIII)Z"⟩
abbrev w_P_alias : List Cond := wz_ y_P_alias b_P_alias 5 (some .boolean)
abbrev b_P_areOfOneMethod : ByteArray := prog_1_method_23_code
def y_P_areOfOneMethod : MethodName := ⟨R_P, "areOfOneMethod", "(II)Z"⟩
abbrev w_P_areOfOneMethod : List Cond := wz_ y_P_areOfOneMethod b_P_areOfOneMethod 2 (some .boolean)
abbrev b_P_call : ByteArray := prog_1_method_8_code
def y_P_call : MethodName := ⟨R_P, "call", "(II)I"⟩
abbrev w_P_call : List Cond := wz_ y_P_call b_P_call 3 (some .int)
abbrev b_P_context : ByteArray := prog_1_method_14_code
def y_P_context : MethodName := ⟨R_P, "context", "(II)I"⟩
abbrev w_P_context : List Cond := wz_ y_P_context b_P_context 3 (some .int)
abbrev b_P_contexts : ByteArray := prog_1_method_13_code
def y_P_contexts : MethodName := ⟨R_P, "contexts", "(I)I"⟩
abbrev w_P_contexts : List Cond := wz_ y_P_contexts b_P_contexts 2 (some .int)
abbrev b_P_copy : ByteArray := prog_1_method_5_code
def y_P_copy : MethodName := ⟨R_P, "copy", "(II)I"⟩
abbrev w_P_copy : List Cond := wz_ y_P_copy b_P_copy 3 (some .int)
abbrev b_P_hasBit : ByteArray := prog_1_method_24_code
def y_P_hasBit : MethodName := ⟨R_P, "hasBit", "(II)Z"⟩
abbrev w_P_hasBit : List Cond := wz_ y_P_hasBit b_P_hasBit 2 (some .boolean)
abbrev b_P_holds : ByteArray := prog_1_method_12_code
def y_P_holds : MethodName := ⟨R_P, "holds", "(II)I"⟩
abbrev w_P_holds : List Cond := wz_ y_P_holds b_P_holds 3 (some .int)
abbrev b_P_isOfMethod : ByteArray := prog_1_method_22_code
def y_P_isOfMethod : MethodName := ⟨R_P, "isOfMethod", "(II)Z"⟩
abbrev w_P_isOfMethod : List Cond := wz_ y_P_isOfMethod b_P_isOfMethod 2 (some .boolean)
abbrev b_P_isVariableIn : ByteArray := prog_1_method_19_code
def y_P_isVariableIn : MethodName := ⟨R_P, "isVariableIn", "(II)Z"⟩
abbrev w_P_isVariableIn : List Cond := wz_ y_P_isVariableIn b_P_isVariableIn 3 (some .boolean)
abbrev b_P_isWithin : ByteArray := prog_1_method_20_code
def y_P_isWithin : MethodName := ⟨R_P, "isWithin", "(II)Z"⟩
abbrev w_P_isWithin : List Cond := wz_ y_P_isWithin b_P_isWithin 2 (some .boolean)
abbrev b_P_kind : ByteArray := prog_1_method_2_code
def y_P_kind : MethodName := ⟨R_P, "kind", "(II)Z"⟩
abbrev w_P_kind : List Cond := wz_ y_P_kind b_P_kind 3 (some .boolean)
abbrev b_P_load : ByteArray := prog_1_method_7_code
def y_P_load : MethodName := ⟨R_P, "load", "(III)I"⟩
abbrev w_P_load : List Cond := wz_ y_P_load b_P_load 4 (some .int)
abbrev b_P_make : ByteArray := prog_1_method_4_code
def y_P_make : MethodName := ⟨R_P, "make", "(II)I"⟩
abbrev w_P_make : List Cond := wz_ y_P_make b_P_make 3 (some .int)
abbrev b_P_methodOf : ByteArray := prog_1_method_21_code
def y_P_methodOf : MethodName := ⟨R_P, "methodOf", "(I)I"⟩
abbrev w_P_methodOf : List Cond := wz_ y_P_methodOf b_P_methodOf 1 (some .int)
abbrev b_P_order : ByteArray := prog_1_method_16_code
def y_P_order : MethodName := ⟨R_P, "order", "(I)Z"⟩
abbrev w_P_order : List Cond := wz_ y_P_order b_P_order 2 (some .boolean)
abbrev b_P_pass : ByteArray := prog_1_method_9_code
def y_P_pass : MethodName := ⟨R_P, "pass", "(IIIZ)I"⟩
abbrev w_P_pass : List Cond := wz_ y_P_pass b_P_pass 5 (some .int)
abbrev b_P_points : ByteArray := prog_1_method_11_code
def y_P_points : MethodName := ⟨R_P, "points", "(II)I"⟩
abbrev w_P_points : List Cond := wz_ y_P_points b_P_points 3 (some .int)
abbrev b_P_store : ByteArray := prog_1_method_6_code
def y_P_store : MethodName := ⟨R_P, "store", "(III)I"⟩
abbrev w_P_store : List Cond := wz_ y_P_store b_P_store 4 (some .int)
abbrev b_T_addHeld : ByteArray := prog_5_method_14_code
def y_T_addHeld : MethodName := ⟨R_T, "addHeld", "(III)V"⟩
abbrev w_T_addHeld : List Cond := wz_ y_T_addHeld b_T_addHeld 5 none
abbrev b_T_addPointed : ByteArray := prog_5_method_13_code
def y_T_addPointed : MethodName := ⟨R_T, "addPointed", "(III)V"⟩
abbrev w_T_addPointed : List Cond := wz_ y_T_addPointed b_T_addPointed 4 none
abbrev b_T_addTo : ByteArray := prog_5_method_15_code
def y_T_addTo : MethodName := ⟨R_T, "addTo", "([III)V"⟩
abbrev w_T_addTo : List Cond := wz_ y_T_addTo b_T_addTo 5 none
abbrev b_T_applyCalls : ByteArray := prog_5_method_11_code
def y_T_applyCalls : MethodName := ⟨R_T, "applyCalls", "(LPointerClones$Program;LPointerClones$Numbering;)V"⟩
abbrev w_T_applyCalls : List Cond := wz_ y_T_applyCalls b_T_applyCalls 6 none
abbrev b_T_applyPasses : ByteArray := prog_5_method_12_code
def y_T_applyPasses : MethodName := ⟨R_T, "applyPasses", "(LPointerClones$Program;III)V"⟩
abbrev w_T_applyPasses : List Cond := wz_ y_T_applyPasses b_T_applyPasses 10 none
abbrev b_T_applyStatement : ByteArray := prog_5_method_10_code
def y_T_applyStatement : MethodName := ⟨R_T, "applyStatement", "(LPointerClones$Program;II)V"⟩
abbrev w_T_applyStatement : List Cond := wz_ y_T_applyStatement b_T_applyStatement 7 none
abbrev b_T_applyStatements : ByteArray := prog_5_method_9_code
def y_T_applyStatements : MethodName := ⟨R_T, "applyStatements", "(LPointerClones$Program;LPointerClones$Numbering;)V"⟩
abbrev w_T_applyStatements : List Cond := wz_ y_T_applyStatements b_T_applyStatements 6 none
abbrev b_T_findWelcome : ByteArray := prog_5_method_8_code
def y_T_findWelcome : MethodName := ⟨R_T, "findWelcome", "(LPointerClones$Program;)V"⟩
abbrev w_T_findWelcome : List Cond := wz_ y_T_findWelcome b_T_findWelcome 5 none
abbrev b_T_heldIn : ByteArray := prog_5_method_3_code
def y_T_heldIn : MethodName := ⟨R_T, "heldIn", "(II)I"⟩
abbrev w_T_heldIn : List Cond := wz_ y_T_heldIn b_T_heldIn 3 (some .int)
abbrev b_T_heldInAny : ByteArray := prog_5_method_16_code
def y_T_heldInAny : MethodName := ⟨R_T, "heldInAny", "(II)I"⟩
abbrev w_T_heldInAny : List Cond := wz_ y_T_heldInAny b_T_heldInAny 5 (some .int)
abbrev b_T_pointedTo : ByteArray := prog_5_method_2_code
def y_T_pointedTo : MethodName := ⟨R_T, "pointedTo", "(II)I"⟩
abbrev w_T_pointedTo : List Cond := wz_ y_T_pointedTo b_T_pointedTo 3 (some .int)
