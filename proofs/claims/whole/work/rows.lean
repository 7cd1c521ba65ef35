section
-- ===== PART A: goes FIRST, ahead of the names: the tables' words, and 'selects' of the private methods out of them =====
/-- a private method of a class that the tables say can be made, by its rows of tables_1 -/
def lw_okq (q : MethodName × Nat) : Prop := (q.1.cls ≠ "java/lang/invoke/MethodHandle" ∧ q.1.cls ≠ "java/lang/invoke/VarHandle") ∧ Cond.instantiable q.1.cls q.2 ∈ tables_1 ∧ Cond.privateMethod q.1 ∈ tables_1 ∧ Cond.instanceMethod q.1 ∈ tables_1
theorem lw_p0 : lw_okq (⟨"PointerClones$Numbering", "findReached", "(LPointerClones$Program;)V"⟩, 5) := ⟨⟨by decide +kernel, by decide +kernel⟩, List.mem_of_getElem? (i := 95) (by decide +kernel), List.mem_of_getElem? (i := 251) (by decide +kernel), List.mem_of_getElem? (i := 252) (by decide +kernel)⟩
theorem lw_p1 : lw_okq (⟨"PointerClones$Numbering", "reckonCounts", "(LPointerClones$Program;)V"⟩, 5) := ⟨⟨by decide +kernel, by decide +kernel⟩, List.mem_of_getElem? (i := 95) (by decide +kernel), List.mem_of_getElem? (i := 258) (by decide +kernel), List.mem_of_getElem? (i := 259) (by decide +kernel)⟩
theorem lw_p2 : lw_okq (⟨"PointerClones$Numbering", "broughtBefore", "(LPointerClones$Program;II)I"⟩, 5) := ⟨⟨by decide +kernel, by decide +kernel⟩, List.mem_of_getElem? (i := 95) (by decide +kernel), List.mem_of_getElem? (i := 262) (by decide +kernel), List.mem_of_getElem? (i := 263) (by decide +kernel)⟩
theorem lw_p3 : lw_okq (⟨"PointerClones$Numbering", "isOuter", "(LPointerClones$Program;I)Z"⟩, 5) := ⟨⟨by decide +kernel, by decide +kernel⟩, List.mem_of_getElem? (i := 95) (by decide +kernel), List.mem_of_getElem? (i := 266) (by decide +kernel), List.mem_of_getElem? (i := 267) (by decide +kernel)⟩
theorem lw_p4 : lw_okq (⟨"PointerClones$Numbering", "areOfOneGroup", "(II)Z"⟩, 5) := ⟨⟨by decide +kernel, by decide +kernel⟩, List.mem_of_getElem? (i := 95) (by decide +kernel), List.mem_of_getElem? (i := 270) (by decide +kernel), List.mem_of_getElem? (i := 271) (by decide +kernel)⟩
theorem lw_p5 : lw_okq (⟨"PointerClones$Numbering", "keepReckoned", "(LPointerClones$Program;)V"⟩, 5) := ⟨⟨by decide +kernel, by decide +kernel⟩, List.mem_of_getElem? (i := 95) (by decide +kernel), List.mem_of_getElem? (i := 277) (by decide +kernel), List.mem_of_getElem? (i := 278) (by decide +kernel)⟩
theorem lw_p6 : lw_okq (⟨"PointerClones$Relations", "findWelcome", "(LPointerClones$Program;)V"⟩, 4) := ⟨⟨by decide +kernel, by decide +kernel⟩, List.mem_of_getElem? (i := 121) (by decide +kernel), List.mem_of_getElem? (i := 289) (by decide +kernel), List.mem_of_getElem? (i := 290) (by decide +kernel)⟩
theorem lw_p7 : lw_okq (⟨"PointerClones$Relations", "applyStatements", "(LPointerClones$Program;LPointerClones$Numbering;)V"⟩, 4) := ⟨⟨by decide +kernel, by decide +kernel⟩, List.mem_of_getElem? (i := 121) (by decide +kernel), List.mem_of_getElem? (i := 294) (by decide +kernel), List.mem_of_getElem? (i := 295) (by decide +kernel)⟩
theorem lw_p8 : lw_okq (⟨"PointerClones$Relations", "applyStatement", "(LPointerClones$Program;II)V"⟩, 4) := ⟨⟨by decide +kernel, by decide +kernel⟩, List.mem_of_getElem? (i := 121) (by decide +kernel), List.mem_of_getElem? (i := 299) (by decide +kernel), List.mem_of_getElem? (i := 300) (by decide +kernel)⟩
theorem lw_p9 : lw_okq (⟨"PointerClones$Relations", "addPointed", "(III)V"⟩, 4) := ⟨⟨by decide +kernel, by decide +kernel⟩, List.mem_of_getElem? (i := 121) (by decide +kernel), List.mem_of_getElem? (i := 303) (by decide +kernel), List.mem_of_getElem? (i := 304) (by decide +kernel)⟩
theorem lw_p10 : lw_okq (⟨"PointerClones$Relations", "addTo", "([III)V"⟩, 4) := ⟨⟨by decide +kernel, by decide +kernel⟩, List.mem_of_getElem? (i := 121) (by decide +kernel), List.mem_of_getElem? (i := 307) (by decide +kernel), List.mem_of_getElem? (i := 308) (by decide +kernel)⟩
theorem lw_p11 : lw_okq (⟨"PointerClones$Relations", "addHeld", "(III)V"⟩, 4) := ⟨⟨by decide +kernel, by decide +kernel⟩, List.mem_of_getElem? (i := 121) (by decide +kernel), List.mem_of_getElem? (i := 315) (by decide +kernel), List.mem_of_getElem? (i := 316) (by decide +kernel)⟩
theorem lw_p12 : lw_okq (⟨"PointerClones$Relations", "heldInAny", "(II)I"⟩, 4) := ⟨⟨by decide +kernel, by decide +kernel⟩, List.mem_of_getElem? (i := 121) (by decide +kernel), List.mem_of_getElem? (i := 319) (by decide +kernel), List.mem_of_getElem? (i := 320) (by decide +kernel)⟩
theorem lw_p13 : lw_okq (⟨"PointerClones$Relations", "applyCalls", "(LPointerClones$Program;LPointerClones$Numbering;)V"⟩, 4) := ⟨⟨by decide +kernel, by decide +kernel⟩, List.mem_of_getElem? (i := 121) (by decide +kernel), List.mem_of_getElem? (i := 327) (by decide +kernel), List.mem_of_getElem? (i := 328) (by decide +kernel)⟩
theorem lw_p14 : lw_okq (⟨"PointerClones$Relations", "applyPasses", "(LPointerClones$Program;III)V"⟩, 4) := ⟨⟨by decide +kernel, by decide +kernel⟩, List.mem_of_getElem? (i := 121) (by decide +kernel), List.mem_of_getElem? (i := 335) (by decide +kernel), List.mem_of_getElem? (i := 336) (by decide +kernel)⟩
theorem lw_p15 : lw_okq (⟨"PointerClones", "isVariableIn", "(II)Z"⟩, 5) := ⟨⟨by decide +kernel, by decide +kernel⟩, List.mem_of_getElem? (i := 12) (by decide +kernel), List.mem_of_getElem? (i := 356) (by decide +kernel), List.mem_of_getElem? (i := 357) (by decide +kernel)⟩
def lw_privs_1 : List (MethodName × Nat) := [(⟨"PointerClones$Numbering", "findReached", "(LPointerClones$Program;)V"⟩, 5), (⟨"PointerClones$Numbering", "reckonCounts", "(LPointerClones$Program;)V"⟩, 5), (⟨"PointerClones$Numbering", "broughtBefore", "(LPointerClones$Program;II)I"⟩, 5), (⟨"PointerClones$Numbering", "isOuter", "(LPointerClones$Program;I)Z"⟩, 5), (⟨"PointerClones$Numbering", "areOfOneGroup", "(II)Z"⟩, 5), (⟨"PointerClones$Numbering", "keepReckoned", "(LPointerClones$Program;)V"⟩, 5), (⟨"PointerClones$Relations", "findWelcome", "(LPointerClones$Program;)V"⟩, 4), (⟨"PointerClones$Relations", "applyStatements", "(LPointerClones$Program;LPointerClones$Numbering;)V"⟩, 4), (⟨"PointerClones$Relations", "applyStatement", "(LPointerClones$Program;II)V"⟩, 4), (⟨"PointerClones$Relations", "addPointed", "(III)V"⟩, 4), (⟨"PointerClones$Relations", "addTo", "([III)V"⟩, 4), (⟨"PointerClones$Relations", "addHeld", "(III)V"⟩, 4), (⟨"PointerClones$Relations", "heldInAny", "(II)I"⟩, 4), (⟨"PointerClones$Relations", "applyCalls", "(LPointerClones$Program;LPointerClones$Numbering;)V"⟩, 4), (⟨"PointerClones$Relations", "applyPasses", "(LPointerClones$Program;III)V"⟩, 4), (⟨"PointerClones", "isVariableIn", "(II)Z"⟩, 5)]
theorem lw_r1 : ∀ q ∈ lw_privs_1, lw_okq q := List.forall_mem_cons.mpr ⟨lw_p0, List.forall_mem_cons.mpr ⟨lw_p1, List.forall_mem_cons.mpr ⟨lw_p2, List.forall_mem_cons.mpr ⟨lw_p3, List.forall_mem_cons.mpr ⟨lw_p4, List.forall_mem_cons.mpr ⟨lw_p5, List.forall_mem_cons.mpr ⟨lw_p6, List.forall_mem_cons.mpr ⟨lw_p7, List.forall_mem_cons.mpr ⟨lw_p8, List.forall_mem_cons.mpr ⟨lw_p9, List.forall_mem_cons.mpr ⟨lw_p10, List.forall_mem_cons.mpr ⟨lw_p11, List.forall_mem_cons.mpr ⟨lw_p12, List.forall_mem_cons.mpr ⟨lw_p13, List.forall_mem_cons.mpr ⟨lw_p14, List.forall_mem_cons.mpr ⟨lw_p15, fun _ h => absurd h List.not_mem_nil⟩⟩⟩⟩⟩⟩⟩⟩⟩⟩⟩⟩⟩⟩⟩⟩
theorem lw_p16 : lw_okq (⟨"PointerClones$Diagram", "joinPairs", "(II)V"⟩, 6) := ⟨⟨by decide +kernel, by decide +kernel⟩, List.mem_of_getElem? (i := 140) (by decide +kernel), List.mem_of_getElem? (i := 413) (by decide +kernel), List.mem_of_getElem? (i := 414) (by decide +kernel)⟩
theorem lw_p17 : lw_okq (⟨"PointerClones$Diagram", "findNode", "(II)I"⟩, 6) := ⟨⟨by decide +kernel, by decide +kernel⟩, List.mem_of_getElem? (i := 140) (by decide +kernel), List.mem_of_getElem? (i := 417) (by decide +kernel), List.mem_of_getElem? (i := 418) (by decide +kernel)⟩
theorem lw_p18 : lw_okq (⟨"PointerClonesModel", "statement", "(IIII)I"⟩, 24) := ⟨⟨by decide +kernel, by decide +kernel⟩, List.mem_of_getElem? (i := 437) (by decide +kernel), List.mem_of_getElem? (i := 531) (by decide +kernel), List.mem_of_getElem? (i := 532) (by decide +kernel)⟩
theorem lw_p19 : lw_okq (⟨"PointerClonesModel", "reaches", "()V"⟩, 24) := ⟨⟨by decide +kernel, by decide +kernel⟩, List.mem_of_getElem? (i := 437) (by decide +kernel), List.mem_of_getElem? (i := 562) (by decide +kernel), List.mem_of_getElem? (i := 563) (by decide +kernel)⟩
theorem lw_p20 : lw_okq (⟨"PointerClonesModel", "count", "()Z"⟩, 24) := ⟨⟨by decide +kernel, by decide +kernel⟩, List.mem_of_getElem? (i := 437) (by decide +kernel), List.mem_of_getElem? (i := 566) (by decide +kernel), List.mem_of_getElem? (i := 567) (by decide +kernel)⟩
theorem lw_p21 : lw_okq (⟨"PointerClonesModel", "brought", "(II)I"⟩, 24) := ⟨⟨by decide +kernel, by decide +kernel⟩, List.mem_of_getElem? (i := 437) (by decide +kernel), List.mem_of_getElem? (i := 570) (by decide +kernel), List.mem_of_getElem? (i := 571) (by decide +kernel)⟩
theorem lw_p22 : lw_okq (⟨"PointerClonesModel", "isOuter", "(I)Z"⟩, 24) := ⟨⟨by decide +kernel, by decide +kernel⟩, List.mem_of_getElem? (i := 437) (by decide +kernel), List.mem_of_getElem? (i := 574) (by decide +kernel), List.mem_of_getElem? (i := 575) (by decide +kernel)⟩
theorem lw_p23 : lw_okq (⟨"PointerClonesModel", "group", "(II)Z"⟩, 24) := ⟨⟨by decide +kernel, by decide +kernel⟩, List.mem_of_getElem? (i := 437) (by decide +kernel), List.mem_of_getElem? (i := 578) (by decide +kernel), List.mem_of_getElem? (i := 579) (by decide +kernel)⟩
theorem lw_p24 : lw_okq (⟨"PointerClonesModel", "round", "()Z"⟩, 24) := ⟨⟨by decide +kernel, by decide +kernel⟩, List.mem_of_getElem? (i := 437) (by decide +kernel), List.mem_of_getElem? (i := 582) (by decide +kernel), List.mem_of_getElem? (i := 583) (by decide +kernel)⟩
theorem lw_p25 : lw_okq (⟨"PointerClonesModel", "follow", "(II)Z"⟩, 24) := ⟨⟨by decide +kernel, by decide +kernel⟩, List.mem_of_getElem? (i := 437) (by decide +kernel), List.mem_of_getElem? (i := 586) (by decide +kernel), List.mem_of_getElem? (i := 587) (by decide +kernel)⟩
theorem lw_p26 : lw_okq (⟨"PointerClonesModel", "more", "(III)Z"⟩, 24) := ⟨⟨by decide +kernel, by decide +kernel⟩, List.mem_of_getElem? (i := 437) (by decide +kernel), List.mem_of_getElem? (i := 590) (by decide +kernel), List.mem_of_getElem? (i := 591) (by decide +kernel)⟩
theorem lw_p27 : lw_okq (⟨"PointerClonesModel", "fitting", "(I)I"⟩, 24) := ⟨⟨by decide +kernel, by decide +kernel⟩, List.mem_of_getElem? (i := 437) (by decide +kernel), List.mem_of_getElem? (i := 594) (by decide +kernel), List.mem_of_getElem? (i := 595) (by decide +kernel)⟩
theorem lw_p28 : lw_okq (⟨"PointerClonesModel", "holdMore", "(III)Z"⟩, 24) := ⟨⟨by decide +kernel, by decide +kernel⟩, List.mem_of_getElem? (i := 437) (by decide +kernel), List.mem_of_getElem? (i := 598) (by decide +kernel), List.mem_of_getElem? (i := 599) (by decide +kernel)⟩
theorem lw_p29 : lw_okq (⟨"PointerClonesModel", "held", "(II)I"⟩, 24) := ⟨⟨by decide +kernel, by decide +kernel⟩, List.mem_of_getElem? (i := 437) (by decide +kernel), List.mem_of_getElem? (i := 602) (by decide +kernel), List.mem_of_getElem? (i := 603) (by decide +kernel)⟩
theorem lw_p30 : lw_okq (⟨"PointerClonesModel", "carry", "(II)Z"⟩, 24) := ⟨⟨by decide +kernel, by decide +kernel⟩, List.mem_of_getElem? (i := 437) (by decide +kernel), List.mem_of_getElem? (i := 606) (by decide +kernel), List.mem_of_getElem? (i := 607) (by decide +kernel)⟩
theorem lw_p31 : lw_okq (⟨"PointerClonesModel", "isContext", "(II)Z"⟩, 24) := ⟨⟨by decide +kernel, by decide +kernel⟩, List.mem_of_getElem? (i := 437) (by decide +kernel), List.mem_of_getElem? (i := 617) (by decide +kernel), List.mem_of_getElem? (i := 618) (by decide +kernel)⟩
def lw_privs_2 : List (MethodName × Nat) := [(⟨"PointerClones$Diagram", "joinPairs", "(II)V"⟩, 6), (⟨"PointerClones$Diagram", "findNode", "(II)I"⟩, 6), (⟨"PointerClonesModel", "statement", "(IIII)I"⟩, 24), (⟨"PointerClonesModel", "reaches", "()V"⟩, 24), (⟨"PointerClonesModel", "count", "()Z"⟩, 24), (⟨"PointerClonesModel", "brought", "(II)I"⟩, 24), (⟨"PointerClonesModel", "isOuter", "(I)Z"⟩, 24), (⟨"PointerClonesModel", "group", "(II)Z"⟩, 24), (⟨"PointerClonesModel", "round", "()Z"⟩, 24), (⟨"PointerClonesModel", "follow", "(II)Z"⟩, 24), (⟨"PointerClonesModel", "more", "(III)Z"⟩, 24), (⟨"PointerClonesModel", "fitting", "(I)I"⟩, 24), (⟨"PointerClonesModel", "holdMore", "(III)Z"⟩, 24), (⟨"PointerClonesModel", "held", "(II)I"⟩, 24), (⟨"PointerClonesModel", "carry", "(II)Z"⟩, 24), (⟨"PointerClonesModel", "isContext", "(II)Z"⟩, 24)]
theorem lw_r2 : ∀ q ∈ lw_privs_2, lw_okq q := List.forall_mem_cons.mpr ⟨lw_p16, List.forall_mem_cons.mpr ⟨lw_p17, List.forall_mem_cons.mpr ⟨lw_p18, List.forall_mem_cons.mpr ⟨lw_p19, List.forall_mem_cons.mpr ⟨lw_p20, List.forall_mem_cons.mpr ⟨lw_p21, List.forall_mem_cons.mpr ⟨lw_p22, List.forall_mem_cons.mpr ⟨lw_p23, List.forall_mem_cons.mpr ⟨lw_p24, List.forall_mem_cons.mpr ⟨lw_p25, List.forall_mem_cons.mpr ⟨lw_p26, List.forall_mem_cons.mpr ⟨lw_p27, List.forall_mem_cons.mpr ⟨lw_p28, List.forall_mem_cons.mpr ⟨lw_p29, List.forall_mem_cons.mpr ⟨lw_p30, List.forall_mem_cons.mpr ⟨lw_p31, fun _ h => absurd h List.not_mem_nil⟩⟩⟩⟩⟩⟩⟩⟩⟩⟩⟩⟩⟩⟩⟩⟩
theorem lw_p32 : lw_okq (⟨"PointerClonesModel", "fill", "(I)V"⟩, 24) := ⟨⟨by decide +kernel, by decide +kernel⟩, List.mem_of_getElem? (i := 437) (by decide +kernel), List.mem_of_getElem? (i := 645) (by decide +kernel), List.mem_of_getElem? (i := 646) (by decide +kernel)⟩
theorem lw_p33 : lw_okq (⟨"PointerClonesModel", "index", "(IIIIII)I"⟩, 24) := ⟨⟨by decide +kernel, by decide +kernel⟩, List.mem_of_getElem? (i := 437) (by decide +kernel), List.mem_of_getElem? (i := 649) (by decide +kernel), List.mem_of_getElem? (i := 650) (by decide +kernel)⟩
theorem lw_p34 : lw_okq (⟨"PointerClonesModel", "number", "(I)I"⟩, 24) := ⟨⟨by decide +kernel, by decide +kernel⟩, List.mem_of_getElem? (i := 437) (by decide +kernel), List.mem_of_getElem? (i := 653) (by decide +kernel), List.mem_of_getElem? (i := 654) (by decide +kernel)⟩
theorem lw_p35 : lw_okq (⟨"PointerClonesModel", "same", "(III)Z"⟩, 24) := ⟨⟨by decide +kernel, by decide +kernel⟩, List.mem_of_getElem? (i := 437) (by decide +kernel), List.mem_of_getElem? (i := 657) (by decide +kernel), List.mem_of_getElem? (i := 658) (by decide +kernel)⟩
def lw_privs_3 : List (MethodName × Nat) := [(⟨"PointerClonesModel", "fill", "(I)V"⟩, 24), (⟨"PointerClonesModel", "index", "(IIIIII)I"⟩, 24), (⟨"PointerClonesModel", "number", "(I)I"⟩, 24), (⟨"PointerClonesModel", "same", "(III)Z"⟩, 24)]
theorem lw_r3 : ∀ q ∈ lw_privs_3, lw_okq q := List.forall_mem_cons.mpr ⟨lw_p32, List.forall_mem_cons.mpr ⟨lw_p33, List.forall_mem_cons.mpr ⟨lw_p34, List.forall_mem_cons.mpr ⟨lw_p35, fun _ h => absurd h List.not_mem_nil⟩⟩⟩⟩
def lw_privs : List (MethodName × Nat) := lw_privs_1 ++ (lw_privs_2 ++ (lw_privs_3))
def lw_tbl : List Cond := k2_sels lw_privs ++ tables_1
theorem lw_privs_ok : ∀ q ∈ lw_privs, lw_okq q := by
  show ∀ q ∈ lw_privs_1 ++ (lw_privs_2 ++ (lw_privs_3)), lw_okq q
  exact List.forall_mem_append.mpr ⟨lw_r1, List.forall_mem_append.mpr ⟨lw_r2, lw_r3⟩⟩
def R_P : String := "PointerClones"
def R_G : String := "PointerClones$Program"
def R_N : String := "PointerClones$Numbering"
def R_T : String := "PointerClones$Relations"
def R_D : String := "PointerClones$Diagram"
def R_M : String := "PointerClonesModel"
def R_A : String := "java/util/Arrays"
def R_I : String := "java/lang/Integer"
def R_L : String := "PointerClonesLaw"
def F_P : u_T := fun k => match k with
  | 0 => (R_P, "program", "LPointerClones$Program;", true)
  | 1 => (R_P, "numbering", "LPointerClones$Numbering;", true)
  | 2 => (R_P, "relations", "LPointerClones$Relations;", true)
  | 3 => (R_P, "diagram", "LPointerClones$Diagram;", true)
  | _ => (R_P, "orderSet", "I", false)
def tf_P : Nat → FieldType := fun k => match k with
  | 0 => .object "PointerClones$Program"
  | 1 => .object "PointerClones$Numbering"
  | 2 => .object "PointerClones$Relations"
  | 3 => .object "PointerClones$Diagram"
  | _ => .int
theorem nn_P : ∀ a, a < 5 → ∀ b, b < 5 → a ≠ b → (F_P a).2.1 ≠ (F_P b).2.1 := by decide +kernel
theorem tt_P : ∀ k, k < 5 → parseFieldDescriptor (F_P k).2.2.1 = some (tf_P k) := by decide +kernel
def F_G : u_T := fun k => match k with
  | 0 => (R_G, "kindOf", "[I", true)
  | 1 => (R_G, "acceptedBy", "[I", true)
  | 2 => (R_G, "statements", "I", false)
  | 3 => (R_G, "form", "[I", true)
  | 4 => (R_G, "left", "[I", true)
  | 5 => (R_G, "right", "[I", true)
  | 6 => (R_G, "field", "[I", true)
  | 7 => (R_G, "calls", "I", false)
  | 8 => (R_G, "calling", "[I", true)
  | 9 => (R_G, "called", "[I", true)
  | 10 => (R_G, "passesOf", "[I", true)
  | 11 => (R_G, "passTo", "[I", true)
  | 12 => (R_G, "passFrom", "[I", true)
  | _ => (R_G, "passBack", "[Z", true)
def tf_G : Nat → FieldType := fun k => match k with
  | 0 => .array .int
  | 1 => .array .int
  | 2 => .int
  | 3 => .array .int
  | 4 => .array .int
  | 5 => .array .int
  | 6 => .array .int
  | 7 => .int
  | 8 => .array .int
  | 9 => .array .int
  | 10 => .array .int
  | 11 => .array .int
  | 12 => .array .int
  | _ => .array .boolean
theorem nn_G : ∀ a, a < 14 → ∀ b, b < 14 → a ≠ b → (F_G a).2.1 ≠ (F_G b).2.1 := by decide +kernel
theorem tt_G : ∀ k, k < 14 → parseFieldDescriptor (F_G k).2.2.1 = some (tf_G k) := by decide +kernel
def F_N : u_T := fun k => match k with
  | 0 => (R_N, "countOf", "[I", true)
  | 1 => (R_N, "firstBy", "[I", true)
  | 2 => (R_N, "calls", "I", false)
  | 3 => (R_N, "reachedFrom", "[I", true)
  | _ => (R_N, "reckoned", "[I", true)
def tf_N : Nat → FieldType := fun k => match k with
  | 0 => .array .int
  | 1 => .array .int
  | 2 => .int
  | 3 => .array .int
  | _ => .array .int
theorem nn_N : ∀ a, a < 5 → ∀ b, b < 5 → a ≠ b → (F_N a).2.1 ≠ (F_N b).2.1 := by decide +kernel
theorem tt_N : ∀ k, k < 5 → parseFieldDescriptor (F_N k).2.2.1 = some (tf_N k) := by decide +kernel
def F_T : u_T := fun k => match k with
  | 0 => (R_T, "pointed", "[I", true)
  | 1 => (R_T, "held", "[I", true)
  | 2 => (R_T, "welcomeTo", "[I", true)
  | _ => (R_T, "grown", "Z", false)
def tf_T : Nat → FieldType := fun k => match k with
  | 0 => .array .int
  | 1 => .array .int
  | 2 => .array .int
  | _ => .boolean
theorem nn_T : ∀ a, a < 4 → ∀ b, b < 4 → a ≠ b → (F_T a).2.1 ≠ (F_T b).2.1 := by decide +kernel
theorem tt_T : ∀ k, k < 4 → parseFieldDescriptor (F_T k).2.2.1 = some (tf_T k) := by decide +kernel
def F_D : u_T := fun k => match k with
  | 0 => (R_D, "shiftOf", "[I", true)
  | 1 => (R_D, "functions", "[I", true)
  | 2 => (R_D, "rows", "I", false)
  | 3 => (R_D, "ifZero", "[I", true)
  | 4 => (R_D, "ifOne", "[I", true)
  | _ => (R_D, "found", "I", false)
def tf_D : Nat → FieldType := fun k => match k with
  | 0 => .array .int
  | 1 => .array .int
  | 2 => .int
  | 3 => .array .int
  | 4 => .array .int
  | _ => .int
theorem nn_D : ∀ a, a < 6 → ∀ b, b < 6 → a ≠ b → (F_D a).2.1 ≠ (F_D b).2.1 := by decide +kernel
theorem tt_D : ∀ k, k < 6 → parseFieldDescriptor (F_D k).2.2.1 = some (tf_D k) := by decide +kernel
def F_M : u_T := fun k => match k with
  | 0 => (R_M, "kinds", "[I", true)
  | 1 => (R_M, "accepted", "[I", true)
  | 2 => (R_M, "statements", "I", false)
  | 3 => (R_M, "what", "[I", true)
  | 4 => (R_M, "to", "[I", true)
  | 5 => (R_M, "from", "[I", true)
  | 6 => (R_M, "field", "[I", true)
  | 7 => (R_M, "calls", "I", false)
  | 8 => (R_M, "calling", "[I", true)
  | 9 => (R_M, "called", "[I", true)
  | 10 => (R_M, "passes", "[I", true)
  | 11 => (R_M, "passTo", "[I", true)
  | 12 => (R_M, "passFrom", "[I", true)
  | 13 => (R_M, "passBack", "[Z", true)
  | 14 => (R_M, "reach", "[Z", true)
  | 15 => (R_M, "fresh", "[I", true)
  | 16 => (R_M, "many", "[I", true)
  | 17 => (R_M, "solvedCalls", "I", false)
  | 18 => (R_M, "base", "[I", true)
  | 19 => (R_M, "solvedCalling", "[I", true)
  | 20 => (R_M, "points", "[I", true)
  | 21 => (R_M, "holds", "[I", true)
  | 22 => (R_M, "order", "I", false)
  | _ => (R_M, "row", "[Z", true)
def tf_M : Nat → FieldType := fun k => match k with
  | 0 => .array .int
  | 1 => .array .int
  | 2 => .int
  | 3 => .array .int
  | 4 => .array .int
  | 5 => .array .int
  | 6 => .array .int
  | 7 => .int
  | 8 => .array .int
  | 9 => .array .int
  | 10 => .array .int
  | 11 => .array .int
  | 12 => .array .int
  | 13 => .array .boolean
  | 14 => .array .boolean
  | 15 => .array .int
  | 16 => .array .int
  | 17 => .int
  | 18 => .array .int
  | 19 => .array .int
  | 20 => .array .int
  | 21 => .array .int
  | 22 => .int
  | _ => .array .boolean
theorem nn_M : ∀ a, a < 24 → ∀ b, b < 24 → a ≠ b → (F_M a).2.1 ≠ (F_M b).2.1 := by decide +kernel
theorem tt_M : ∀ k, k < 24 → parseFieldDescriptor (F_M k).2.2.1 = some (tf_M k) := by decide +kernel
abbrev cl_ : List vw_C := [(R_P, F_P, 5), (R_G, F_G, 14), (R_N, F_N, 5), (R_T, F_T, 4), (R_D, F_D, 6), (R_M, F_M, 24)]
abbrev kd_ : Type := (Bool × Nat) ⊕ (Nat × List (Bool × Nat))
/-- the cells: objects by their class and fields (a cell, or an own number), arrays by kind and length -/
def dz_ : List kd_ := [.inr (0, [(true, 1), (true, 2), (true, 3), (true, 4), (false, 4)]), .inr (1, [(true, 5), (true, 6), (false, 2), (true, 7), (true, 8), (true, 9), (true, 10), (false, 7), (true, 11), (true, 12), (true, 13), (true, 14), (true, 15), (true, 16)]), .inr (2, [(true, 17), (true, 18), (false, 2), (true, 19), (true, 20)]), .inr (3, [(true, 21), (true, 22), (true, 23), (false, 3)]), .inr (4, [(true, 24), (true, 25), (false, 2), (true, 26), (true, 27), (false, 5)]), .inl (false, 8), .inl (false, 16), .inl (false, 40), .inl (false, 40), .inl (false, 40), .inl (false, 40), .inl (false, 8), .inl (false, 8), .inl (false, 8), .inl (false, 32), .inl (false, 32), .inl (true, 32), .inl (false, 4), .inl (false, 8), .inl (false, 4), .inl (false, 4), .inl (false, 128), .inl (false, 16), .inl (false, 16), .inl (false, 3), .inl (false, 1024), .inl (false, 512), .inl (false, 512), .inr (5, [(true, 29), (true, 30), (false, 2), (true, 31), (true, 32), (true, 33), (true, 34), (false, 7), (true, 35), (true, 36), (true, 37), (true, 38), (true, 39), (true, 40), (true, 41), (true, 42), (true, 43), (false, 17), (true, 44), (true, 45), (true, 46), (true, 47), (false, 22), (true, 48)]), .inl (false, 8), .inl (false, 16), .inl (false, 40), .inl (false, 40), .inl (false, 40), .inl (false, 40), .inl (false, 8), .inl (false, 8), .inl (false, 8), .inl (false, 32), .inl (false, 32), .inl (true, 32), .inl (true, 16), .inl (false, 4), .inl (false, 4), .inl (false, 8), .inl (false, 8), .inl (false, 128), .inl (false, 16), .inl (true, 1024)]
def bitT : List Nat := [3, 4, 3, 3, 1, 3]
def staT : List Nat := [0, 1, 2, 0, 2, 1, 1, 0, 2, 1, 2, 0, 2, 0, 1, 2, 1, 0]
def ak_ : List Cond := lw_tbl.filter goodWord
theorem ak_ok : ∀ w ∈ ak_, (w.onTables && w.keeps) = true ∨ ∃ ty, w = .arrayClass ty := fun w h => good_of_word (List.mem_filter.mp h).2
def nw_ : List Cond := [.fieldLinkNest R_P 45 R_G "kindOf" "[I" R_P, .fieldLinkNest R_T 57 R_G "kindOf" "[I" R_P, .fieldLinkNest R_P 49 R_G "acceptedBy" "[I" R_P, .fieldLinkNest R_T 52 R_G "acceptedBy" "[I" R_P, .fieldLinkNest R_T 64 R_G "statements" "I" R_P, .fieldLinkNest R_P 113 R_G "statements" "I" R_P, .fieldLinkNest R_T 89 R_G "form" "[I" R_P, .fieldLinkNest R_T 73 R_G "left" "[I" R_P, .fieldLinkNest R_T 83 R_G "right" "[I" R_P, .fieldLinkNest R_T 86 R_G "field" "[I" R_P, .fieldLinkNest R_N 44 R_G "calls" "I" R_P, .fieldLinkNest R_T 106 R_G "calls" "I" R_P, .fieldLinkNest R_P 116 R_G "calls" "I" R_P, .fieldLinkNest R_N 47 R_G "calling" "[I" R_P, .fieldLinkNest R_T 109 R_G "calling" "[I" R_P, .fieldLinkNest R_P 97 R_G "calling" "[I" R_P, .fieldLinkNest R_N 50 R_G "called" "[I" R_P, .fieldLinkNest R_T 119 R_G "passesOf" "[I" R_P, .fieldLinkNest R_T 122 R_G "passTo" "[I" R_P, .fieldLinkNest R_T 125 R_G "passFrom" "[I" R_P, .fieldLinkNest R_T 128 R_G "passBack" "[Z" R_P, .fieldLinkNest R_T 68 R_N "countOf" "[I" R_P, .fieldLinkNest R_P 91 R_N "countOf" "[I" R_P, .fieldLinkNest R_P 94 R_N "calls" "I" R_P, .methodLinkNest R_P 25 ⟨R_T, "<init>", "()V"⟩ R_P, .methodLinkNest R_P 32 ⟨R_D, "<init>", "()V"⟩ R_P, .methodLinkNest R_G 62 ⟨R_P, "isWithin", "(II)Z"⟩ R_P, .methodLinkNest R_G 66 ⟨R_P, "isOfMethod", "(II)Z"⟩ R_P, .methodLinkNest R_N 53 ⟨R_P, "hasBit", "(II)Z"⟩ R_P, .methodLinkNest R_T 60 ⟨R_P, "hasBit", "(II)Z"⟩ R_P, .methodLinkNest R_T 76 ⟨R_P, "methodOf", "(I)I"⟩ R_P]
theorem nw_in : ∀ w ∈ nw_, w ∈ lw_tbl := by decide +kernel
def isN : Cond → Bool
  | .fieldLinkNest .. => true
  | .methodLinkNest .. => true
  | _ => false
theorem nw_is : ∀ w ∈ nw_, isN w = true := by decide +kernel
def wz_ (y : MethodName) (cc : ByteArray) (n : Nat) (ret : Option FieldType) : List Cond := Cond.code y cc n ret :: ak_
theorem in_P : ∀ w ∈ u_ws R_P F_P 5, w ∈ ak_ := by decide +kernel
theorem in_G : ∀ w ∈ u_ws R_G F_G 14, w ∈ ak_ := by decide +kernel
theorem in_N : ∀ w ∈ u_ws R_N F_N 5, w ∈ ak_ := by decide +kernel
theorem in_T : ∀ w ∈ u_ws R_T F_T 4, w ∈ ak_ := by decide +kernel
theorem in_D : ∀ w ∈ u_ws R_D F_D 6, w ∈ ak_ := by decide +kernel
theorem in_M : ∀ w ∈ u_ws R_M F_M 24, w ∈ ak_ := by decide +kernel
theorem pl_P : plainName R_P = true := by decide
theorem pl_G : plainName R_G = true := by decide
theorem pl_N : plainName R_N = true := by decide
theorem pl_T : plainName R_T = true := by decide
theorem pl_D : plainName R_D = true := by decide
theorem pl_M : plainName R_M = true := by decide
theorem pl_A : plainName R_A = true := by decide
theorem pl_I : plainName R_I = true := by decide
abbrev b_A_fill : ByteArray := prog_11_method_103_code
def y_A_fill : MethodName := ⟨R_A, "fill", "([II)V"⟩
abbrev w_A_fill : List Cond := wz_ y_A_fill b_A_fill 4 none
abbrev b_D_countNodes : ByteArray := prog_2_method_4_code
def y_D_countNodes : MethodName := ⟨R_D, "countNodes", "()I"⟩
abbrev w_D_countNodes : List Cond := wz_ y_D_countNodes b_D_countNodes 3 (some .int)
abbrev b_D_findNode : ByteArray := prog_2_method_6_code
def y_D_findNode : MethodName := ⟨R_D, "findNode", "(II)I"⟩
abbrev w_D_findNode : List Cond := wz_ y_D_findNode b_D_findNode 4 (some .int)
abbrev b_D_joinPairs : ByteArray := prog_2_method_5_code
def y_D_joinPairs : MethodName := ⟨R_D, "joinPairs", "(II)V"⟩
abbrev w_D_joinPairs : List Cond := wz_ y_D_joinPairs b_D_joinPairs 6 none
abbrev b_G_addCall : ByteArray := prog_4_method_3_code
def y_G_addCall : MethodName := ⟨R_G, "addCall", "(II)I"⟩
abbrev w_G_addCall : List Cond := wz_ y_G_addCall b_G_addCall 3 (some .int)
abbrev b_G_addPass : ByteArray := prog_4_method_5_code
def y_G_addPass : MethodName := ⟨R_G, "addPass", "(IIIZ)I"⟩
abbrev w_G_addPass : List Cond := wz_ y_G_addPass b_G_addPass 6 (some .int)
abbrev b_G_addStatement : ByteArray := prog_4_method_2_code
def y_G_addStatement : MethodName := ⟨R_G, "addStatement", "(IIII)I"⟩
abbrev w_G_addStatement : List Cond := wz_ y_G_addStatement b_G_addStatement 5 (some .int)
abbrev b_G_countPasses : ByteArray := prog_4_method_6_code
def y_G_countPasses : MethodName := ⟨R_G, "countPasses", "()I"⟩
abbrev w_G_countPasses : List Cond := wz_ y_G_countPasses b_G_countPasses 3 (some .int)
abbrev b_G_mayPass : ByteArray := prog_4_method_4_code
def y_G_mayPass : MethodName := ⟨R_G, "mayPass", "(IIIZ)Z"⟩
abbrev w_G_mayPass : List Cond := wz_ y_G_mayPass b_G_mayPass 5 (some .boolean)
abbrev b_M_accept : ByteArray := prog_7_method_4_code
def y_M_accept : MethodName := ⟨R_M, "accept", "(II)Z"⟩
abbrev w_M_accept : List Cond := wz_ y_M_accept b_M_accept 3 (some .boolean)
abbrev b_M_alias : ByteArray := prog_7_method_32_code
def y_M_alias : MethodName := ⟨R_M, "alias", "(IIII)Z"⟩
abbrev w_M_alias : List Cond := wz_ y_M_alias b_M_alias 5 (some .boolean)
abbrev b_M_call : ByteArray := prog_7_method_11_code
def y_M_call : MethodName := ⟨R_M, "call", "(II)I"⟩
abbrev w_M_call : List Cond := wz_ y_M_call b_M_call 3 (some .int)
abbrev b_M_context : ByteArray := prog_7_method_31_code
def y_M_context : MethodName := ⟨R_M, "context", "(II)I"⟩
abbrev w_M_context : List Cond := wz_ y_M_context b_M_context 3 (some .int)
abbrev b_M_contexts : ByteArray := prog_7_method_30_code
def y_M_contexts : MethodName := ⟨R_M, "contexts", "(I)I"⟩
abbrev w_M_contexts : List Cond := wz_ y_M_contexts b_M_contexts 2 (some .int)
abbrev b_M_copy : ByteArray := prog_7_method_8_code
def y_M_copy : MethodName := ⟨R_M, "copy", "(II)I"⟩
abbrev w_M_copy : List Cond := wz_ y_M_copy b_M_copy 3 (some .int)
abbrev b_M_holds : ByteArray := prog_7_method_29_code
def y_M_holds : MethodName := ⟨R_M, "holds", "(II)I"⟩
abbrev w_M_holds : List Cond := wz_ y_M_holds b_M_holds 3 (some .int)
abbrev b_M_in : ByteArray := prog_7_method_2_code
def y_M_in : MethodName := ⟨R_M, "in", "(II)Z"⟩
abbrev w_M_in : List Cond := wz_ y_M_in b_M_in 2 (some .boolean)
abbrev b_M_isContext : ByteArray := prog_7_method_27_code
def y_M_isContext : MethodName := ⟨R_M, "isContext", "(II)Z"⟩
abbrev w_M_isContext : List Cond := wz_ y_M_isContext b_M_isContext 3 (some .boolean)
abbrev b_M_kind : ByteArray := prog_7_method_3_code
def y_M_kind : MethodName := ⟨R_M, "kind", "(II)Z"⟩
abbrev w_M_kind : List Cond := wz_ y_M_kind b_M_kind 3 (some .boolean)
abbrev b_M_load : ByteArray := prog_7_method_10_code
def y_M_load : MethodName := ⟨R_M, "load", "(III)I"⟩
abbrev w_M_load : List Cond := wz_ y_M_load b_M_load 4 (some .int)
abbrev b_M_make : ByteArray := prog_7_method_7_code
def y_M_make : MethodName := ⟨R_M, "make", "(II)I"⟩
abbrev w_M_make : List Cond := wz_ y_M_make b_M_make 3 (some .int)
abbrev b_M_order : ByteArray := prog_7_method_33_code
def y_M_order : MethodName := ⟨R_M, "order", "(I)Z"⟩
abbrev w_M_order : List Cond := wz_ y_M_order b_M_order 2 (some .boolean)
abbrev b_M_points : ByteArray := prog_7_method_28_code
def y_M_points : MethodName := ⟨R_M, "points", "(II)I"⟩
abbrev w_M_points : List Cond := wz_ y_M_points b_M_points 3 (some .int)
abbrev b_M_statement : ByteArray := prog_7_method_5_code
def y_M_statement : MethodName := ⟨R_M, "statement", "(IIII)I"⟩
abbrev w_M_statement : List Cond := wz_ y_M_statement b_M_statement 5 (some .int)
abbrev b_M_store : ByteArray := prog_7_method_9_code
def y_M_store : MethodName := ⟨R_M, "store", "(III)I"⟩
abbrev w_M_store : List Cond := wz_ y_M_store b_M_store 4 (some .int)
abbrev b_M_together : ByteArray := prog_7_method_6_code
def y_M_together : MethodName := ⟨R_M, "together", "(II)Z"⟩
abbrev w_M_together : List Cond := wz_ y_M_together b_M_together 2 (some .boolean)
abbrev b_N_areOfOneGroup : ByteArray := prog_3_method_9_code
def y_N_areOfOneGroup : MethodName := ⟨R_N, "areOfOneGroup", "(II)Z"⟩
abbrev w_N_areOfOneGroup : List Cond := wz_ y_N_areOfOneGroup b_N_areOfOneGroup 3 (some .boolean)
abbrev b_N_broughtBefore : ByteArray := prog_3_method_6_code
def y_N_broughtBefore : MethodName := ⟨R_N, "broughtBefore", "(LPointerClones$Program;II)I"⟩
abbrev w_N_broughtBefore : List Cond := wz_ y_N_broughtBefore b_N_broughtBefore 6 (some .int)
abbrev b_N_contextBy : ByteArray := prog_3_method_2_code
def y_N_contextBy : MethodName := ⟨R_N, "contextBy", "(II)I"⟩
abbrev w_N_contextBy : List Cond := wz_ y_N_contextBy b_N_contextBy 3 (some .int)
abbrev b_N_findReached : ByteArray := prog_3_method_4_code
def y_N_findReached : MethodName := ⟨R_N, "findReached", "(LPointerClones$Program;)V"⟩
abbrev w_N_findReached : List Cond := wz_ y_N_findReached b_N_findReached 4 none
abbrev b_N_isOuter : ByteArray := prog_3_method_8_code
def y_N_isOuter : MethodName := ⟨R_N, "isOuter", "(LPointerClones$Program;I)Z"⟩
abbrev w_N_isOuter : List Cond := wz_ y_N_isOuter b_N_isOuter 3 (some .boolean)
abbrev b_P_accept : ByteArray := prog_1_method_3_code
def y_P_accept : MethodName := ⟨R_P, "accept", "(II)Z"⟩
abbrev w_P_accept : List Cond := wz_ y_P_accept b_P_accept 3 (some .boolean)
abbrev b_P_alias : ByteArray := prog_1_method_15_code
def y_P_alias : MethodName := ⟨R_P, "alias", "(IIII)Z"⟩
abbrev w_P_alias : List Cond := wz_ y_P_alias b_P_alias 5 (some .boolean)
abbrev b_P_areOfOneMethod : ByteArray := prog_1_method_23_code
def y_P_areOfOneMethod : MethodName := ⟨R_P, "areOfOneMethod", "(II)Z"⟩
abbrev w_P_areOfOneMethod : List Cond := wz_ y_P_areOfOneMethod b_P_areOfOneMethod 2 (some .boolean)
abbrev b_P_call : ByteArray := prog_1_method_8_code
def y_P_call : MethodName := ⟨R_P, "call", "(II)I"⟩
abbrev w_P_call : List Cond := wz_ y_P_call b_P_call 3 (some .int)
abbrev b_P_context : ByteArray := prog_1_method_14_code
def y_P_context : MethodName := ⟨R_P, "context", "(II)I"⟩
abbrev w_P_context : List Cond := wz_ y_P_context b_P_context 3 (some .int)
abbrev b_P_contexts : ByteArray := prog_1_method_13_code
def y_P_contexts : MethodName := ⟨R_P, "contexts", "(I)I"⟩
abbrev w_P_contexts : List Cond := wz_ y_P_contexts b_P_contexts 2 (some .int)
abbrev b_P_copy : ByteArray := prog_1_method_5_code
def y_P_copy : MethodName := ⟨R_P, "copy", "(II)I"⟩
abbrev w_P_copy : List Cond := wz_ y_P_copy b_P_copy 3 (some .int)
abbrev b_P_hasBit : ByteArray := prog_1_method_24_code
def y_P_hasBit : MethodName := ⟨R_P, "hasBit", "(II)Z"⟩
abbrev w_P_hasBit : List Cond := wz_ y_P_hasBit b_P_hasBit 2 (some .boolean)
abbrev b_P_holds : ByteArray := prog_1_method_12_code
def y_P_holds : MethodName := ⟨R_P, "holds", "(II)I"⟩
abbrev w_P_holds : List Cond := wz_ y_P_holds b_P_holds 3 (some .int)
abbrev b_P_isOfMethod : ByteArray := prog_1_method_22_code
def y_P_isOfMethod : MethodName := ⟨R_P, "isOfMethod", "(II)Z"⟩
abbrev w_P_isOfMethod : List Cond := wz_ y_P_isOfMethod b_P_isOfMethod 2 (some .boolean)
abbrev b_P_isVariableIn : ByteArray := prog_1_method_19_code
def y_P_isVariableIn : MethodName := ⟨R_P, "isVariableIn", "(II)Z"⟩
abbrev w_P_isVariableIn : List Cond := wz_ y_P_isVariableIn b_P_isVariableIn 3 (some .boolean)
abbrev b_P_isWithin : ByteArray := prog_1_method_20_code
def y_P_isWithin : MethodName := ⟨R_P, "isWithin", "(II)Z"⟩
abbrev w_P_isWithin : List Cond := wz_ y_P_isWithin b_P_isWithin 2 (some .boolean)
abbrev b_P_kind : ByteArray := prog_1_method_2_code
def y_P_kind : MethodName := ⟨R_P, "kind", "(II)Z"⟩
abbrev w_P_kind : List Cond := wz_ y_P_kind b_P_kind 3 (some .boolean)
abbrev b_P_load : ByteArray := prog_1_method_7_code
def y_P_load : MethodName := ⟨R_P, "load", "(III)I"⟩
abbrev w_P_load : List Cond := wz_ y_P_load b_P_load 4 (some .int)
abbrev b_P_make : ByteArray := prog_1_method_4_code
def y_P_make : MethodName := ⟨R_P, "make", "(II)I"⟩
abbrev w_P_make : List Cond := wz_ y_P_make b_P_make 3 (some .int)
abbrev b_P_methodOf : ByteArray := prog_1_method_21_code
def y_P_methodOf : MethodName := ⟨R_P, "methodOf", "(I)I"⟩
abbrev w_P_methodOf : List Cond := wz_ y_P_methodOf b_P_methodOf 1 (some .int)
abbrev b_P_order : ByteArray := prog_1_method_16_code
def y_P_order : MethodName := ⟨R_P, "order", "(I)Z"⟩
abbrev w_P_order : List Cond := wz_ y_P_order b_P_order 2 (some .boolean)
abbrev b_P_pass : ByteArray := prog_1_method_9_code
def y_P_pass : MethodName := ⟨R_P, "pass", "(IIIZ)I"⟩
abbrev w_P_pass : List Cond := wz_ y_P_pass b_P_pass 5 (some .int)
abbrev b_P_points : ByteArray := prog_1_method_11_code
def y_P_points : MethodName := ⟨R_P, "points", "(II)I"⟩
abbrev w_P_points : List Cond := wz_ y_P_points b_P_points 3 (some .int)
abbrev b_P_store : ByteArray := prog_1_method_6_code
def y_P_store : MethodName := ⟨R_P, "store", "(III)I"⟩
abbrev w_P_store : List Cond := wz_ y_P_store b_P_store 4 (some .int)
abbrev b_T_addHeld : ByteArray := prog_5_method_14_code
def y_T_addHeld : MethodName := ⟨R_T, "addHeld", "(III)V"⟩
abbrev w_T_addHeld : List Cond := wz_ y_T_addHeld b_T_addHeld 5 none
abbrev b_T_addPointed : ByteArray := prog_5_method_13_code
def y_T_addPointed : MethodName := ⟨R_T, "addPointed", "(III)V"⟩
abbrev w_T_addPointed : List Cond := wz_ y_T_addPointed b_T_addPointed 4 none
abbrev b_T_addTo : ByteArray := prog_5_method_15_code
def y_T_addTo : MethodName := ⟨R_T, "addTo", "([III)V"⟩
abbrev w_T_addTo : List Cond := wz_ y_T_addTo b_T_addTo 5 none
abbrev b_T_applyCalls : ByteArray := prog_5_method_11_code
def y_T_applyCalls : MethodName := ⟨R_T, "applyCalls", "(LPointerClones$Program;LPointerClones$Numbering;)V"⟩
abbrev w_T_applyCalls : List Cond := wz_ y_T_applyCalls b_T_applyCalls 6 none
abbrev b_T_applyPasses : ByteArray := prog_5_method_12_code
def y_T_applyPasses : MethodName := ⟨R_T, "applyPasses", "(LPointerClones$Program;III)V"⟩
abbrev w_T_applyPasses : List Cond := wz_ y_T_applyPasses b_T_applyPasses 10 none
abbrev b_T_applyStatement : ByteArray := prog_5_method_10_code
def y_T_applyStatement : MethodName := ⟨R_T, "applyStatement", "(LPointerClones$Program;II)V"⟩
abbrev w_T_applyStatement : List Cond := wz_ y_T_applyStatement b_T_applyStatement 7 none
abbrev b_T_applyStatements : ByteArray := prog_5_method_9_code
def y_T_applyStatements : MethodName := ⟨R_T, "applyStatements", "(LPointerClones$Program;LPointerClones$Numbering;)V"⟩
abbrev w_T_applyStatements : List Cond := wz_ y_T_applyStatements b_T_applyStatements 6 none
abbrev b_T_findWelcome : ByteArray := prog_5_method_8_code
def y_T_findWelcome : MethodName := ⟨R_T, "findWelcome", "(LPointerClones$Program;)V"⟩
abbrev w_T_findWelcome : List Cond := wz_ y_T_findWelcome b_T_findWelcome 5 none
abbrev b_T_heldIn : ByteArray := prog_5_method_3_code
def y_T_heldIn : MethodName := ⟨R_T, "heldIn", "(II)I"⟩
abbrev w_T_heldIn : List Cond := wz_ y_T_heldIn b_T_heldIn 3 (some .int)
abbrev b_T_heldInAny : ByteArray := prog_5_method_16_code
def y_T_heldInAny : MethodName := ⟨R_T, "heldInAny", "(II)I"⟩
abbrev w_T_heldInAny : List Cond := wz_ y_T_heldInAny b_T_heldInAny 5 (some .int)
abbrev b_T_pointedTo : ByteArray := prog_5_method_2_code
def y_T_pointedTo : MethodName := ⟨R_T, "pointedTo", "(II)I"⟩
abbrev w_T_pointedTo : List Cond := wz_ y_T_pointedTo b_T_pointedTo 3 (some .int)
end
section
theorem d_A_fill_0 : decode b_A_fill 0 = .ok (.iconst 0, 1) := by decide +kernel
theorem d_A_fill_1 : decode b_A_fill 1 = .ok (.istore_n 2, 1) := by decide +kernel
theorem d_A_fill_2 : decode b_A_fill 2 = .ok (.aload_n 0, 1) := by decide +kernel
theorem d_A_fill_3 : decode b_A_fill 3 = .ok (.arraylength, 1) := by decide +kernel
theorem d_A_fill_4 : decode b_A_fill 4 = .ok (.istore_n 3, 1) := by decide +kernel
theorem d_A_fill_5 : decode b_A_fill 5 = .ok (.iload_n 2, 1) := by decide +kernel
theorem d_A_fill_6 : decode b_A_fill 6 = .ok (.iload_n 3, 1) := by decide +kernel
theorem d_A_fill_7 : decode b_A_fill 7 = .ok (.if_icmp .ge 13, 3) := by decide +kernel
theorem d_A_fill_10 : decode b_A_fill 10 = .ok (.aload_n 0, 1) := by decide +kernel
theorem d_A_fill_11 : decode b_A_fill 11 = .ok (.iload_n 2, 1) := by decide +kernel
theorem d_A_fill_12 : decode b_A_fill 12 = .ok (.iload_n 1, 1) := by decide +kernel
theorem d_A_fill_13 : decode b_A_fill 13 = .ok (.iastore, 1) := by decide +kernel
theorem d_A_fill_14 : decode b_A_fill 14 = .ok (.iinc 2 1, 3) := by decide +kernel
theorem d_A_fill_17 : decode b_A_fill 17 = .ok (.goto (-12), 3) := by decide +kernel
theorem d_A_fill_20 : decode b_A_fill 20 = .ok (.return_, 1) := by decide +kernel
theorem d_D_countNodes_0 : decode b_D_countNodes 0 = .ok (.iconst 0, 1) := by decide +kernel
theorem d_D_countNodes_1 : decode b_D_countNodes 1 = .ok (.istore_n 1, 1) := by decide +kernel
theorem d_D_countNodes_2 : decode b_D_countNodes 2 = .ok (.aload_n 0, 1) := by decide +kernel
theorem d_D_countNodes_3 : decode b_D_countNodes 3 = .ok (.getfield 18, 3) := by decide +kernel
theorem d_D_countNodes_6 : decode b_D_countNodes 6 = .ok (.iconst 2, 1) := by decide +kernel
theorem d_D_countNodes_7 : decode b_D_countNodes 7 = .ok (.idiv, 1) := by decide +kernel
theorem d_D_countNodes_8 : decode b_D_countNodes 8 = .ok (.istore_n 2, 1) := by decide +kernel
theorem d_D_countNodes_9 : decode b_D_countNodes 9 = .ok (.iload_n 2, 1) := by decide +kernel
theorem d_D_countNodes_10 : decode b_D_countNodes 10 = .ok (.ifCond .le 25, 3) := by decide +kernel
theorem d_D_countNodes_13 : decode b_D_countNodes 13 = .ok (.aload_n 0, 1) := by decide +kernel
theorem d_D_countNodes_14 : decode b_D_countNodes 14 = .ok (.iload_n 2, 1) := by decide +kernel
theorem d_D_countNodes_15 : decode b_D_countNodes 15 = .ok (.iconst 2, 1) := by decide +kernel
theorem d_D_countNodes_16 : decode b_D_countNodes 16 = .ok (.iload_n 1, 1) := by decide +kernel
theorem d_D_countNodes_17 : decode b_D_countNodes 17 = .ok (.iadd, 1) := by decide +kernel
theorem d_D_countNodes_18 : decode b_D_countNodes 18 = .ok (.invokevirtual 43, 3) := by decide +kernel
theorem d_D_countNodes_21 : decode b_D_countNodes 21 = .ok (.iload_n 1, 1) := by decide +kernel
theorem d_D_countNodes_22 : decode b_D_countNodes 22 = .ok (.aload_n 0, 1) := by decide +kernel
theorem d_D_countNodes_23 : decode b_D_countNodes 23 = .ok (.getfield 28, 3) := by decide +kernel
theorem d_D_countNodes_26 : decode b_D_countNodes 26 = .ok (.iadd, 1) := by decide +kernel
theorem d_D_countNodes_27 : decode b_D_countNodes 27 = .ok (.istore_n 1, 1) := by decide +kernel
theorem d_D_countNodes_28 : decode b_D_countNodes 28 = .ok (.iload_n 2, 1) := by decide +kernel
theorem d_D_countNodes_29 : decode b_D_countNodes 29 = .ok (.iconst 2, 1) := by decide +kernel
theorem d_D_countNodes_30 : decode b_D_countNodes 30 = .ok (.idiv, 1) := by decide +kernel
theorem d_D_countNodes_31 : decode b_D_countNodes 31 = .ok (.istore_n 2, 1) := by decide +kernel
theorem d_D_countNodes_32 : decode b_D_countNodes 32 = .ok (.goto (-23), 3) := by decide +kernel
theorem d_D_countNodes_35 : decode b_D_countNodes 35 = .ok (.iload_n 1, 1) := by decide +kernel
theorem d_D_countNodes_36 : decode b_D_countNodes 36 = .ok (.ireturn, 1) := by decide +kernel
theorem d_D_findNode_0 : decode b_D_findNode 0 = .ok (.iconst 0, 1) := by decide +kernel
theorem d_D_findNode_1 : decode b_D_findNode 1 = .ok (.istore_n 3, 1) := by decide +kernel
theorem d_D_findNode_2 : decode b_D_findNode 2 = .ok (.iload_n 3, 1) := by decide +kernel
theorem d_D_findNode_3 : decode b_D_findNode 3 = .ok (.aload_n 0, 1) := by decide +kernel
theorem d_D_findNode_4 : decode b_D_findNode 4 = .ok (.getfield 28, 3) := by decide +kernel
theorem d_D_findNode_7 : decode b_D_findNode 7 = .ok (.if_icmp .ge 31, 3) := by decide +kernel
theorem d_D_findNode_10 : decode b_D_findNode 10 = .ok (.aload_n 0, 1) := by decide +kernel
theorem d_D_findNode_11 : decode b_D_findNode 11 = .ok (.getfield 22, 3) := by decide +kernel
theorem d_D_findNode_14 : decode b_D_findNode 14 = .ok (.iload_n 3, 1) := by decide +kernel
theorem d_D_findNode_15 : decode b_D_findNode 15 = .ok (.iaload, 1) := by decide +kernel
theorem d_D_findNode_16 : decode b_D_findNode 16 = .ok (.iload_n 1, 1) := by decide +kernel
theorem d_D_findNode_17 : decode b_D_findNode 17 = .ok (.if_icmp .ne 15, 3) := by decide +kernel
theorem d_D_findNode_20 : decode b_D_findNode 20 = .ok (.aload_n 0, 1) := by decide +kernel
theorem d_D_findNode_21 : decode b_D_findNode 21 = .ok (.getfield 25, 3) := by decide +kernel
theorem d_D_findNode_24 : decode b_D_findNode 24 = .ok (.iload_n 3, 1) := by decide +kernel
theorem d_D_findNode_25 : decode b_D_findNode 25 = .ok (.iaload, 1) := by decide +kernel
theorem d_D_findNode_26 : decode b_D_findNode 26 = .ok (.iload_n 2, 1) := by decide +kernel
theorem d_D_findNode_27 : decode b_D_findNode 27 = .ok (.if_icmp .ne 5, 3) := by decide +kernel
theorem d_D_findNode_30 : decode b_D_findNode 30 = .ok (.iload_n 3, 1) := by decide +kernel
theorem d_D_findNode_31 : decode b_D_findNode 31 = .ok (.ireturn, 1) := by decide +kernel
theorem d_D_findNode_32 : decode b_D_findNode 32 = .ok (.iinc 3 1, 3) := by decide +kernel
theorem d_D_findNode_35 : decode b_D_findNode 35 = .ok (.goto (-33), 3) := by decide +kernel
theorem d_D_findNode_38 : decode b_D_findNode 38 = .ok (.aload_n 0, 1) := by decide +kernel
theorem d_D_findNode_39 : decode b_D_findNode 39 = .ok (.getfield 22, 3) := by decide +kernel
theorem d_D_findNode_42 : decode b_D_findNode 42 = .ok (.aload_n 0, 1) := by decide +kernel
theorem d_D_findNode_43 : decode b_D_findNode 43 = .ok (.getfield 28, 3) := by decide +kernel
theorem d_D_findNode_46 : decode b_D_findNode 46 = .ok (.iload_n 1, 1) := by decide +kernel
theorem d_D_findNode_47 : decode b_D_findNode 47 = .ok (.iastore, 1) := by decide +kernel
theorem d_D_findNode_48 : decode b_D_findNode 48 = .ok (.aload_n 0, 1) := by decide +kernel
theorem d_D_findNode_49 : decode b_D_findNode 49 = .ok (.getfield 25, 3) := by decide +kernel
theorem d_D_findNode_52 : decode b_D_findNode 52 = .ok (.aload_n 0, 1) := by decide +kernel
theorem d_D_findNode_53 : decode b_D_findNode 53 = .ok (.getfield 28, 3) := by decide +kernel
theorem d_D_findNode_56 : decode b_D_findNode 56 = .ok (.iload_n 2, 1) := by decide +kernel
theorem d_D_findNode_57 : decode b_D_findNode 57 = .ok (.iastore, 1) := by decide +kernel
theorem d_D_findNode_58 : decode b_D_findNode 58 = .ok (.aload_n 0, 1) := by decide +kernel
theorem d_D_findNode_59 : decode b_D_findNode 59 = .ok (.dup, 1) := by decide +kernel
theorem d_D_findNode_60 : decode b_D_findNode 60 = .ok (.getfield 28, 3) := by decide +kernel
theorem d_D_findNode_63 : decode b_D_findNode 63 = .ok (.iconst 1, 1) := by decide +kernel
theorem d_D_findNode_64 : decode b_D_findNode 64 = .ok (.iadd, 1) := by decide +kernel
theorem d_D_findNode_65 : decode b_D_findNode 65 = .ok (.putfield 28, 3) := by decide +kernel
theorem d_D_findNode_68 : decode b_D_findNode 68 = .ok (.aload_n 0, 1) := by decide +kernel
theorem d_D_findNode_69 : decode b_D_findNode 69 = .ok (.getfield 28, 3) := by decide +kernel
theorem d_D_findNode_72 : decode b_D_findNode 72 = .ok (.iconst 1, 1) := by decide +kernel
theorem d_D_findNode_73 : decode b_D_findNode 73 = .ok (.isub, 1) := by decide +kernel
theorem d_D_findNode_74 : decode b_D_findNode 74 = .ok (.ireturn, 1) := by decide +kernel
theorem d_D_joinPairs_0 : decode b_D_joinPairs 0 = .ok (.aload_n 0, 1) := by decide +kernel
theorem d_D_joinPairs_1 : decode b_D_joinPairs 1 = .ok (.iconst 0, 1) := by decide +kernel
theorem d_D_joinPairs_2 : decode b_D_joinPairs 2 = .ok (.putfield 28, 3) := by decide +kernel
theorem d_D_joinPairs_5 : decode b_D_joinPairs 5 = .ok (.iconst 0, 1) := by decide +kernel
theorem d_D_joinPairs_6 : decode b_D_joinPairs 6 = .ok (.istore_n 3, 1) := by decide +kernel
theorem d_D_joinPairs_7 : decode b_D_joinPairs 7 = .ok (.iload_n 3, 1) := by decide +kernel
theorem d_D_joinPairs_8 : decode b_D_joinPairs 8 = .ok (.iload_n 1, 1) := by decide +kernel
theorem d_D_joinPairs_9 : decode b_D_joinPairs 9 = .ok (.if_icmp .ge 59, 3) := by decide +kernel
theorem d_D_joinPairs_12 : decode b_D_joinPairs 12 = .ok (.aload_n 0, 1) := by decide +kernel
theorem d_D_joinPairs_13 : decode b_D_joinPairs 13 = .ok (.getfield 15, 3) := by decide +kernel
theorem d_D_joinPairs_16 : decode b_D_joinPairs 16 = .ok (.iconst 2, 1) := by decide +kernel
theorem d_D_joinPairs_17 : decode b_D_joinPairs 17 = .ok (.iload_n 3, 1) := by decide +kernel
theorem d_D_joinPairs_18 : decode b_D_joinPairs 18 = .ok (.imul, 1) := by decide +kernel
theorem d_D_joinPairs_19 : decode b_D_joinPairs 19 = .ok (.iaload, 1) := by decide +kernel
theorem d_D_joinPairs_20 : decode b_D_joinPairs 20 = .ok (.istore 4, 2) := by decide +kernel
theorem d_D_joinPairs_22 : decode b_D_joinPairs 22 = .ok (.aload_n 0, 1) := by decide +kernel
theorem d_D_joinPairs_23 : decode b_D_joinPairs 23 = .ok (.getfield 15, 3) := by decide +kernel
theorem d_D_joinPairs_26 : decode b_D_joinPairs 26 = .ok (.iconst 2, 1) := by decide +kernel
theorem d_D_joinPairs_27 : decode b_D_joinPairs 27 = .ok (.iload_n 3, 1) := by decide +kernel
theorem d_D_joinPairs_28 : decode b_D_joinPairs 28 = .ok (.imul, 1) := by decide +kernel
theorem d_D_joinPairs_29 : decode b_D_joinPairs 29 = .ok (.iconst 1, 1) := by decide +kernel
theorem d_D_joinPairs_30 : decode b_D_joinPairs 30 = .ok (.iadd, 1) := by decide +kernel
theorem d_D_joinPairs_31 : decode b_D_joinPairs 31 = .ok (.iaload, 1) := by decide +kernel
theorem d_D_joinPairs_32 : decode b_D_joinPairs 32 = .ok (.istore 5, 2) := by decide +kernel
theorem d_D_joinPairs_34 : decode b_D_joinPairs 34 = .ok (.aload_n 0, 1) := by decide +kernel
theorem d_D_joinPairs_35 : decode b_D_joinPairs 35 = .ok (.getfield 15, 3) := by decide +kernel
theorem d_D_joinPairs_38 : decode b_D_joinPairs 38 = .ok (.iload_n 3, 1) := by decide +kernel
theorem d_D_joinPairs_39 : decode b_D_joinPairs 39 = .ok (.iload 4, 2) := by decide +kernel
theorem d_D_joinPairs_41 : decode b_D_joinPairs 41 = .ok (.iload 5, 2) := by decide +kernel
theorem d_D_joinPairs_43 : decode b_D_joinPairs 43 = .ok (.if_icmp .ne 8, 3) := by decide +kernel
theorem d_D_joinPairs_46 : decode b_D_joinPairs 46 = .ok (.iload 4, 2) := by decide +kernel
theorem d_D_joinPairs_48 : decode b_D_joinPairs 48 = .ok (.goto 13, 3) := by decide +kernel
theorem d_D_joinPairs_51 : decode b_D_joinPairs 51 = .ok (.iload_n 2, 1) := by decide +kernel
theorem d_D_joinPairs_52 : decode b_D_joinPairs 52 = .ok (.aload_n 0, 1) := by decide +kernel
theorem d_D_joinPairs_53 : decode b_D_joinPairs 53 = .ok (.iload 4, 2) := by decide +kernel
theorem d_D_joinPairs_55 : decode b_D_joinPairs 55 = .ok (.iload 5, 2) := by decide +kernel
theorem d_D_joinPairs_57 : decode b_D_joinPairs 57 = .ok (.invokevirtual 47, 3) := by decide +kernel
theorem d_D_joinPairs_60 : decode b_D_joinPairs 60 = .ok (.iadd, 1) := by decide +kernel
theorem d_D_joinPairs_61 : decode b_D_joinPairs 61 = .ok (.iastore, 1) := by decide +kernel
theorem d_D_joinPairs_62 : decode b_D_joinPairs 62 = .ok (.iinc 3 1, 3) := by decide +kernel
theorem d_D_joinPairs_65 : decode b_D_joinPairs 65 = .ok (.goto (-58), 3) := by decide +kernel
theorem d_D_joinPairs_68 : decode b_D_joinPairs 68 = .ok (.return_, 1) := by decide +kernel
theorem d_G_addCall_0 : decode b_G_addCall 0 = .ok (.aload_n 0, 1) := by decide +kernel
theorem d_G_addCall_1 : decode b_G_addCall 1 = .ok (.getfield 34, 3) := by decide +kernel
theorem d_G_addCall_4 : decode b_G_addCall 4 = .ok (.bipush 8, 2) := by decide +kernel
theorem d_G_addCall_6 : decode b_G_addCall 6 = .ok (.if_icmp .lt 6, 3) := by decide +kernel
theorem d_G_addCall_9 : decode b_G_addCall 9 = .ok (.bipush (-2), 2) := by decide +kernel
theorem d_G_addCall_11 : decode b_G_addCall 11 = .ok (.ireturn, 1) := by decide +kernel
theorem d_G_addCall_12 : decode b_G_addCall 12 = .ok (.aload_n 0, 1) := by decide +kernel
theorem d_G_addCall_13 : decode b_G_addCall 13 = .ok (.getfield 37, 3) := by decide +kernel
theorem d_G_addCall_16 : decode b_G_addCall 16 = .ok (.aload_n 0, 1) := by decide +kernel
theorem d_G_addCall_17 : decode b_G_addCall 17 = .ok (.getfield 34, 3) := by decide +kernel
theorem d_G_addCall_20 : decode b_G_addCall 20 = .ok (.iload_n 1, 1) := by decide +kernel
theorem d_G_addCall_21 : decode b_G_addCall 21 = .ok (.iastore, 1) := by decide +kernel
theorem d_G_addCall_22 : decode b_G_addCall 22 = .ok (.aload_n 0, 1) := by decide +kernel
theorem d_G_addCall_23 : decode b_G_addCall 23 = .ok (.getfield 40, 3) := by decide +kernel
theorem d_G_addCall_26 : decode b_G_addCall 26 = .ok (.aload_n 0, 1) := by decide +kernel
theorem d_G_addCall_27 : decode b_G_addCall 27 = .ok (.getfield 34, 3) := by decide +kernel
theorem d_G_addCall_30 : decode b_G_addCall 30 = .ok (.iload_n 2, 1) := by decide +kernel
theorem d_G_addCall_31 : decode b_G_addCall 31 = .ok (.iastore, 1) := by decide +kernel
theorem d_G_addCall_32 : decode b_G_addCall 32 = .ok (.aload_n 0, 1) := by decide +kernel
theorem d_G_addCall_33 : decode b_G_addCall 33 = .ok (.dup, 1) := by decide +kernel
theorem d_G_addCall_34 : decode b_G_addCall 34 = .ok (.getfield 34, 3) := by decide +kernel
theorem d_G_addCall_37 : decode b_G_addCall 37 = .ok (.iconst 1, 1) := by decide +kernel
theorem d_G_addCall_38 : decode b_G_addCall 38 = .ok (.iadd, 1) := by decide +kernel
theorem d_G_addCall_39 : decode b_G_addCall 39 = .ok (.putfield 34, 3) := by decide +kernel
theorem d_G_addCall_42 : decode b_G_addCall 42 = .ok (.aload_n 0, 1) := by decide +kernel
theorem d_G_addCall_43 : decode b_G_addCall 43 = .ok (.getfield 34, 3) := by decide +kernel
theorem d_G_addCall_46 : decode b_G_addCall 46 = .ok (.iconst 1, 1) := by decide +kernel
theorem d_G_addCall_47 : decode b_G_addCall 47 = .ok (.isub, 1) := by decide +kernel
theorem d_G_addCall_48 : decode b_G_addCall 48 = .ok (.ireturn, 1) := by decide +kernel
theorem d_G_addPass_0 : decode b_G_addPass 0 = .ok (.aload_n 0, 1) := by decide +kernel
theorem d_G_addPass_1 : decode b_G_addPass 1 = .ok (.getfield 43, 3) := by decide +kernel
theorem d_G_addPass_4 : decode b_G_addPass 4 = .ok (.iload_n 1, 1) := by decide +kernel
theorem d_G_addPass_5 : decode b_G_addPass 5 = .ok (.iaload, 1) := by decide +kernel
theorem d_G_addPass_6 : decode b_G_addPass 6 = .ok (.iconst 4, 1) := by decide +kernel
theorem d_G_addPass_7 : decode b_G_addPass 7 = .ok (.if_icmp .lt 6, 3) := by decide +kernel
theorem d_G_addPass_10 : decode b_G_addPass 10 = .ok (.bipush (-2), 2) := by decide +kernel
theorem d_G_addPass_12 : decode b_G_addPass 12 = .ok (.ireturn, 1) := by decide +kernel
theorem d_G_addPass_13 : decode b_G_addPass 13 = .ok (.iload_n 1, 1) := by decide +kernel
theorem d_G_addPass_14 : decode b_G_addPass 14 = .ok (.iconst 4, 1) := by decide +kernel
theorem d_G_addPass_15 : decode b_G_addPass 15 = .ok (.imul, 1) := by decide +kernel
theorem d_G_addPass_16 : decode b_G_addPass 16 = .ok (.aload_n 0, 1) := by decide +kernel
theorem d_G_addPass_17 : decode b_G_addPass 17 = .ok (.getfield 43, 3) := by decide +kernel
theorem d_G_addPass_20 : decode b_G_addPass 20 = .ok (.iload_n 1, 1) := by decide +kernel
theorem d_G_addPass_21 : decode b_G_addPass 21 = .ok (.iaload, 1) := by decide +kernel
theorem d_G_addPass_22 : decode b_G_addPass 22 = .ok (.iadd, 1) := by decide +kernel
theorem d_G_addPass_23 : decode b_G_addPass 23 = .ok (.istore 5, 2) := by decide +kernel
theorem d_G_addPass_25 : decode b_G_addPass 25 = .ok (.aload_n 0, 1) := by decide +kernel
theorem d_G_addPass_26 : decode b_G_addPass 26 = .ok (.getfield 46, 3) := by decide +kernel
theorem d_G_addPass_29 : decode b_G_addPass 29 = .ok (.iload 5, 2) := by decide +kernel
theorem d_G_addPass_31 : decode b_G_addPass 31 = .ok (.iload_n 2, 1) := by decide +kernel
theorem d_G_addPass_32 : decode b_G_addPass 32 = .ok (.iastore, 1) := by decide +kernel
theorem d_G_addPass_33 : decode b_G_addPass 33 = .ok (.aload_n 0, 1) := by decide +kernel
theorem d_G_addPass_34 : decode b_G_addPass 34 = .ok (.getfield 49, 3) := by decide +kernel
theorem d_G_addPass_37 : decode b_G_addPass 37 = .ok (.iload 5, 2) := by decide +kernel
theorem d_G_addPass_39 : decode b_G_addPass 39 = .ok (.iload_n 3, 1) := by decide +kernel
theorem d_G_addPass_40 : decode b_G_addPass 40 = .ok (.iastore, 1) := by decide +kernel
theorem d_G_addPass_41 : decode b_G_addPass 41 = .ok (.aload_n 0, 1) := by decide +kernel
theorem d_G_addPass_42 : decode b_G_addPass 42 = .ok (.getfield 52, 3) := by decide +kernel
theorem d_G_addPass_45 : decode b_G_addPass 45 = .ok (.iload 5, 2) := by decide +kernel
theorem d_G_addPass_47 : decode b_G_addPass 47 = .ok (.iload 4, 2) := by decide +kernel
theorem d_G_addPass_49 : decode b_G_addPass 49 = .ok (.bastore, 1) := by decide +kernel
theorem d_G_addPass_50 : decode b_G_addPass 50 = .ok (.aload_n 0, 1) := by decide +kernel
theorem d_G_addPass_51 : decode b_G_addPass 51 = .ok (.getfield 43, 3) := by decide +kernel
theorem d_G_addPass_54 : decode b_G_addPass 54 = .ok (.iload_n 1, 1) := by decide +kernel
theorem d_G_addPass_55 : decode b_G_addPass 55 = .ok (.dup2, 1) := by decide +kernel
theorem d_G_addPass_56 : decode b_G_addPass 56 = .ok (.iaload, 1) := by decide +kernel
theorem d_G_addPass_57 : decode b_G_addPass 57 = .ok (.iconst 1, 1) := by decide +kernel
theorem d_G_addPass_58 : decode b_G_addPass 58 = .ok (.iadd, 1) := by decide +kernel
theorem d_G_addPass_59 : decode b_G_addPass 59 = .ok (.iastore, 1) := by decide +kernel
theorem d_G_addPass_60 : decode b_G_addPass 60 = .ok (.aload_n 0, 1) := by decide +kernel
theorem d_G_addPass_61 : decode b_G_addPass 61 = .ok (.getfield 43, 3) := by decide +kernel
theorem d_G_addPass_64 : decode b_G_addPass 64 = .ok (.iload_n 1, 1) := by decide +kernel
theorem d_G_addPass_65 : decode b_G_addPass 65 = .ok (.iaload, 1) := by decide +kernel
theorem d_G_addPass_66 : decode b_G_addPass 66 = .ok (.ireturn, 1) := by decide +kernel
theorem d_G_addStatement_0 : decode b_G_addStatement 0 = .ok (.aload_n 0, 1) := by decide +kernel
theorem d_G_addStatement_1 : decode b_G_addStatement 1 = .ok (.getfield 18, 3) := by decide +kernel
theorem d_G_addStatement_4 : decode b_G_addStatement 4 = .ok (.bipush 40, 2) := by decide +kernel
theorem d_G_addStatement_6 : decode b_G_addStatement 6 = .ok (.if_icmp .lt 6, 3) := by decide +kernel
theorem d_G_addStatement_9 : decode b_G_addStatement 9 = .ok (.bipush (-2), 2) := by decide +kernel
theorem d_G_addStatement_11 : decode b_G_addStatement 11 = .ok (.ireturn, 1) := by decide +kernel
theorem d_G_addStatement_12 : decode b_G_addStatement 12 = .ok (.aload_n 0, 1) := by decide +kernel
theorem d_G_addStatement_13 : decode b_G_addStatement 13 = .ok (.getfield 22, 3) := by decide +kernel
theorem d_G_addStatement_16 : decode b_G_addStatement 16 = .ok (.aload_n 0, 1) := by decide +kernel
theorem d_G_addStatement_17 : decode b_G_addStatement 17 = .ok (.getfield 18, 3) := by decide +kernel
theorem d_G_addStatement_20 : decode b_G_addStatement 20 = .ok (.iload_n 1, 1) := by decide +kernel
theorem d_G_addStatement_21 : decode b_G_addStatement 21 = .ok (.iastore, 1) := by decide +kernel
theorem d_G_addStatement_22 : decode b_G_addStatement 22 = .ok (.aload_n 0, 1) := by decide +kernel
theorem d_G_addStatement_23 : decode b_G_addStatement 23 = .ok (.getfield 25, 3) := by decide +kernel
theorem d_G_addStatement_26 : decode b_G_addStatement 26 = .ok (.aload_n 0, 1) := by decide +kernel
theorem d_G_addStatement_27 : decode b_G_addStatement 27 = .ok (.getfield 18, 3) := by decide +kernel
theorem d_G_addStatement_30 : decode b_G_addStatement 30 = .ok (.iload_n 2, 1) := by decide +kernel
theorem d_G_addStatement_31 : decode b_G_addStatement 31 = .ok (.iastore, 1) := by decide +kernel
theorem d_G_addStatement_32 : decode b_G_addStatement 32 = .ok (.aload_n 0, 1) := by decide +kernel
theorem d_G_addStatement_33 : decode b_G_addStatement 33 = .ok (.getfield 28, 3) := by decide +kernel
theorem d_G_addStatement_36 : decode b_G_addStatement 36 = .ok (.aload_n 0, 1) := by decide +kernel
theorem d_G_addStatement_37 : decode b_G_addStatement 37 = .ok (.getfield 18, 3) := by decide +kernel
theorem d_G_addStatement_40 : decode b_G_addStatement 40 = .ok (.iload_n 3, 1) := by decide +kernel
theorem d_G_addStatement_41 : decode b_G_addStatement 41 = .ok (.iastore, 1) := by decide +kernel
theorem d_G_addStatement_42 : decode b_G_addStatement 42 = .ok (.aload_n 0, 1) := by decide +kernel
theorem d_G_addStatement_43 : decode b_G_addStatement 43 = .ok (.getfield 31, 3) := by decide +kernel
theorem d_G_addStatement_46 : decode b_G_addStatement 46 = .ok (.aload_n 0, 1) := by decide +kernel
theorem d_G_addStatement_47 : decode b_G_addStatement 47 = .ok (.getfield 18, 3) := by decide +kernel
theorem d_G_addStatement_50 : decode b_G_addStatement 50 = .ok (.iload 4, 2) := by decide +kernel
theorem d_G_addStatement_52 : decode b_G_addStatement 52 = .ok (.iastore, 1) := by decide +kernel
theorem d_G_addStatement_53 : decode b_G_addStatement 53 = .ok (.aload_n 0, 1) := by decide +kernel
theorem d_G_addStatement_54 : decode b_G_addStatement 54 = .ok (.dup, 1) := by decide +kernel
theorem d_G_addStatement_55 : decode b_G_addStatement 55 = .ok (.getfield 18, 3) := by decide +kernel
theorem d_G_addStatement_58 : decode b_G_addStatement 58 = .ok (.iconst 1, 1) := by decide +kernel
theorem d_G_addStatement_59 : decode b_G_addStatement 59 = .ok (.iadd, 1) := by decide +kernel
theorem d_G_addStatement_60 : decode b_G_addStatement 60 = .ok (.putfield 18, 3) := by decide +kernel
theorem d_G_addStatement_63 : decode b_G_addStatement 63 = .ok (.aload_n 0, 1) := by decide +kernel
theorem d_G_addStatement_64 : decode b_G_addStatement 64 = .ok (.getfield 18, 3) := by decide +kernel
theorem d_G_addStatement_67 : decode b_G_addStatement 67 = .ok (.ireturn, 1) := by decide +kernel
theorem d_G_countPasses_0 : decode b_G_countPasses 0 = .ok (.iconst 0, 1) := by decide +kernel
theorem d_G_countPasses_1 : decode b_G_countPasses 1 = .ok (.istore_n 1, 1) := by decide +kernel
theorem d_G_countPasses_2 : decode b_G_countPasses 2 = .ok (.iconst 0, 1) := by decide +kernel
theorem d_G_countPasses_3 : decode b_G_countPasses 3 = .ok (.istore_n 2, 1) := by decide +kernel
theorem d_G_countPasses_4 : decode b_G_countPasses 4 = .ok (.iload_n 2, 1) := by decide +kernel
theorem d_G_countPasses_5 : decode b_G_countPasses 5 = .ok (.aload_n 0, 1) := by decide +kernel
theorem d_G_countPasses_6 : decode b_G_countPasses 6 = .ok (.getfield 34, 3) := by decide +kernel
theorem d_G_countPasses_9 : decode b_G_countPasses 9 = .ok (.if_icmp .ge 18, 3) := by decide +kernel
theorem d_G_countPasses_12 : decode b_G_countPasses 12 = .ok (.iload_n 1, 1) := by decide +kernel
theorem d_G_countPasses_13 : decode b_G_countPasses 13 = .ok (.aload_n 0, 1) := by decide +kernel
theorem d_G_countPasses_14 : decode b_G_countPasses 14 = .ok (.getfield 43, 3) := by decide +kernel
theorem d_G_countPasses_17 : decode b_G_countPasses 17 = .ok (.iload_n 2, 1) := by decide +kernel
theorem d_G_countPasses_18 : decode b_G_countPasses 18 = .ok (.iaload, 1) := by decide +kernel
theorem d_G_countPasses_19 : decode b_G_countPasses 19 = .ok (.iadd, 1) := by decide +kernel
theorem d_G_countPasses_20 : decode b_G_countPasses 20 = .ok (.istore_n 1, 1) := by decide +kernel
theorem d_G_countPasses_21 : decode b_G_countPasses 21 = .ok (.iinc 2 1, 3) := by decide +kernel
theorem d_G_countPasses_24 : decode b_G_countPasses 24 = .ok (.goto (-20), 3) := by decide +kernel
theorem d_G_countPasses_27 : decode b_G_countPasses 27 = .ok (.iload_n 1, 1) := by decide +kernel
theorem d_G_countPasses_28 : decode b_G_countPasses 28 = .ok (.ireturn, 1) := by decide +kernel
theorem d_G_mayPass_0 : decode b_G_mayPass 0 = .ok (.iload_n 1, 1) := by decide +kernel
theorem d_G_mayPass_1 : decode b_G_mayPass 1 = .ok (.aload_n 0, 1) := by decide +kernel
theorem d_G_mayPass_2 : decode b_G_mayPass 2 = .ok (.getfield 34, 3) := by decide +kernel
theorem d_G_mayPass_5 : decode b_G_mayPass 5 = .ok (.invokestatic 62, 3) := by decide +kernel
theorem d_G_mayPass_8 : decode b_G_mayPass 8 = .ok (.ifCond .ne 5, 3) := by decide +kernel
theorem d_G_mayPass_11 : decode b_G_mayPass 11 = .ok (.iconst 0, 1) := by decide +kernel
theorem d_G_mayPass_12 : decode b_G_mayPass 12 = .ok (.ireturn, 1) := by decide +kernel
theorem d_G_mayPass_13 : decode b_G_mayPass 13 = .ok (.iload 4, 2) := by decide +kernel
theorem d_G_mayPass_15 : decode b_G_mayPass 15 = .ok (.ifCond .eq 35, 3) := by decide +kernel
theorem d_G_mayPass_18 : decode b_G_mayPass 18 = .ok (.iload_n 2, 1) := by decide +kernel
theorem d_G_mayPass_19 : decode b_G_mayPass 19 = .ok (.aload_n 0, 1) := by decide +kernel
theorem d_G_mayPass_20 : decode b_G_mayPass 20 = .ok (.getfield 37, 3) := by decide +kernel
theorem d_G_mayPass_23 : decode b_G_mayPass 23 = .ok (.iload_n 1, 1) := by decide +kernel
theorem d_G_mayPass_24 : decode b_G_mayPass 24 = .ok (.iaload, 1) := by decide +kernel
theorem d_G_mayPass_25 : decode b_G_mayPass 25 = .ok (.invokestatic 66, 3) := by decide +kernel
theorem d_G_mayPass_28 : decode b_G_mayPass 28 = .ok (.ifCond .eq 20, 3) := by decide +kernel
theorem d_G_mayPass_31 : decode b_G_mayPass 31 = .ok (.iload_n 3, 1) := by decide +kernel
theorem d_G_mayPass_32 : decode b_G_mayPass 32 = .ok (.aload_n 0, 1) := by decide +kernel
theorem d_G_mayPass_33 : decode b_G_mayPass 33 = .ok (.getfield 40, 3) := by decide +kernel
theorem d_G_mayPass_36 : decode b_G_mayPass 36 = .ok (.iload_n 1, 1) := by decide +kernel
theorem d_G_mayPass_37 : decode b_G_mayPass 37 = .ok (.iaload, 1) := by decide +kernel
theorem d_G_mayPass_38 : decode b_G_mayPass 38 = .ok (.invokestatic 66, 3) := by decide +kernel
theorem d_G_mayPass_41 : decode b_G_mayPass 41 = .ok (.ifCond .eq 7, 3) := by decide +kernel
theorem d_G_mayPass_44 : decode b_G_mayPass 44 = .ok (.iconst 1, 1) := by decide +kernel
theorem d_G_mayPass_45 : decode b_G_mayPass 45 = .ok (.goto 4, 3) := by decide +kernel
theorem d_G_mayPass_48 : decode b_G_mayPass 48 = .ok (.iconst 0, 1) := by decide +kernel
theorem d_G_mayPass_49 : decode b_G_mayPass 49 = .ok (.ireturn, 1) := by decide +kernel
theorem d_G_mayPass_50 : decode b_G_mayPass 50 = .ok (.iload_n 2, 1) := by decide +kernel
theorem d_G_mayPass_51 : decode b_G_mayPass 51 = .ok (.aload_n 0, 1) := by decide +kernel
theorem d_G_mayPass_52 : decode b_G_mayPass 52 = .ok (.getfield 40, 3) := by decide +kernel
theorem d_G_mayPass_55 : decode b_G_mayPass 55 = .ok (.iload_n 1, 1) := by decide +kernel
theorem d_G_mayPass_56 : decode b_G_mayPass 56 = .ok (.iaload, 1) := by decide +kernel
theorem d_G_mayPass_57 : decode b_G_mayPass 57 = .ok (.invokestatic 66, 3) := by decide +kernel
theorem d_G_mayPass_60 : decode b_G_mayPass 60 = .ok (.ifCond .eq 20, 3) := by decide +kernel
theorem d_G_mayPass_63 : decode b_G_mayPass 63 = .ok (.iload_n 3, 1) := by decide +kernel
theorem d_G_mayPass_64 : decode b_G_mayPass 64 = .ok (.aload_n 0, 1) := by decide +kernel
theorem d_G_mayPass_65 : decode b_G_mayPass 65 = .ok (.getfield 37, 3) := by decide +kernel
theorem d_G_mayPass_68 : decode b_G_mayPass 68 = .ok (.iload_n 1, 1) := by decide +kernel
theorem d_G_mayPass_69 : decode b_G_mayPass 69 = .ok (.iaload, 1) := by decide +kernel
theorem d_G_mayPass_70 : decode b_G_mayPass 70 = .ok (.invokestatic 66, 3) := by decide +kernel
theorem d_G_mayPass_73 : decode b_G_mayPass 73 = .ok (.ifCond .eq 7, 3) := by decide +kernel
theorem d_G_mayPass_76 : decode b_G_mayPass 76 = .ok (.iconst 1, 1) := by decide +kernel
theorem d_G_mayPass_77 : decode b_G_mayPass 77 = .ok (.goto 4, 3) := by decide +kernel
theorem d_G_mayPass_80 : decode b_G_mayPass 80 = .ok (.iconst 0, 1) := by decide +kernel
theorem d_G_mayPass_81 : decode b_G_mayPass 81 = .ok (.ireturn, 1) := by decide +kernel
theorem d_M_accept_0 : decode b_M_accept 0 = .ok (.iload_n 1, 1) := by decide +kernel
theorem d_M_accept_1 : decode b_M_accept 1 = .ok (.bipush 15, 2) := by decide +kernel
theorem d_M_accept_3 : decode b_M_accept 3 = .ok (.invokestatic 71, 3) := by decide +kernel
theorem d_M_accept_6 : decode b_M_accept 6 = .ok (.ifCond .eq 12, 3) := by decide +kernel
theorem d_M_accept_9 : decode b_M_accept 9 = .ok (.iload_n 2, 1) := by decide +kernel
theorem d_M_accept_10 : decode b_M_accept 10 = .ok (.bipush 15, 2) := by decide +kernel
theorem d_M_accept_12 : decode b_M_accept 12 = .ok (.invokestatic 71, 3) := by decide +kernel
theorem d_M_accept_15 : decode b_M_accept 15 = .ok (.ifCond .ne 5, 3) := by decide +kernel
theorem d_M_accept_18 : decode b_M_accept 18 = .ok (.iconst 0, 1) := by decide +kernel
theorem d_M_accept_19 : decode b_M_accept 19 = .ok (.ireturn, 1) := by decide +kernel
theorem d_M_accept_20 : decode b_M_accept 20 = .ok (.aload_n 0, 1) := by decide +kernel
theorem d_M_accept_21 : decode b_M_accept 21 = .ok (.getfield 13, 3) := by decide +kernel
theorem d_M_accept_24 : decode b_M_accept 24 = .ok (.iload_n 1, 1) := by decide +kernel
theorem d_M_accept_25 : decode b_M_accept 25 = .ok (.iload_n 2, 1) := by decide +kernel
theorem d_M_accept_26 : decode b_M_accept 26 = .ok (.iastore, 1) := by decide +kernel
theorem d_M_accept_27 : decode b_M_accept 27 = .ok (.iconst 1, 1) := by decide +kernel
theorem d_M_accept_28 : decode b_M_accept 28 = .ok (.ireturn, 1) := by decide +kernel
theorem d_M_alias_0 : decode b_M_alias 0 = .ok (.aload_n 0, 1) := by decide +kernel
theorem d_M_alias_1 : decode b_M_alias 1 = .ok (.iload_n 1, 1) := by decide +kernel
theorem d_M_alias_2 : decode b_M_alias 2 = .ok (.iload_n 2, 1) := by decide +kernel
theorem d_M_alias_3 : decode b_M_alias 3 = .ok (.invokevirtual 136, 3) := by decide +kernel
theorem d_M_alias_6 : decode b_M_alias 6 = .ok (.ifCond .eq 44, 3) := by decide +kernel
theorem d_M_alias_9 : decode b_M_alias 9 = .ok (.aload_n 0, 1) := by decide +kernel
theorem d_M_alias_10 : decode b_M_alias 10 = .ok (.iload_n 3, 1) := by decide +kernel
theorem d_M_alias_11 : decode b_M_alias 11 = .ok (.iload 4, 2) := by decide +kernel
theorem d_M_alias_13 : decode b_M_alias 13 = .ok (.invokevirtual 136, 3) := by decide +kernel
theorem d_M_alias_16 : decode b_M_alias 16 = .ok (.ifCond .eq 34, 3) := by decide +kernel
theorem d_M_alias_19 : decode b_M_alias 19 = .ok (.aload_n 0, 1) := by decide +kernel
theorem d_M_alias_20 : decode b_M_alias 20 = .ok (.getfield 62, 3) := by decide +kernel
theorem d_M_alias_23 : decode b_M_alias 23 = .ok (.bipush 16, 2) := by decide +kernel
theorem d_M_alias_25 : decode b_M_alias 25 = .ok (.iload_n 1, 1) := by decide +kernel
theorem d_M_alias_26 : decode b_M_alias 26 = .ok (.imul, 1) := by decide +kernel
theorem d_M_alias_27 : decode b_M_alias 27 = .ok (.iload_n 2, 1) := by decide +kernel
theorem d_M_alias_28 : decode b_M_alias 28 = .ok (.iadd, 1) := by decide +kernel
theorem d_M_alias_29 : decode b_M_alias 29 = .ok (.iaload, 1) := by decide +kernel
theorem d_M_alias_30 : decode b_M_alias 30 = .ok (.aload_n 0, 1) := by decide +kernel
theorem d_M_alias_31 : decode b_M_alias 31 = .ok (.getfield 62, 3) := by decide +kernel
theorem d_M_alias_34 : decode b_M_alias 34 = .ok (.bipush 16, 2) := by decide +kernel
theorem d_M_alias_36 : decode b_M_alias 36 = .ok (.iload_n 3, 1) := by decide +kernel
theorem d_M_alias_37 : decode b_M_alias 37 = .ok (.imul, 1) := by decide +kernel
theorem d_M_alias_38 : decode b_M_alias 38 = .ok (.iload 4, 2) := by decide +kernel
theorem d_M_alias_40 : decode b_M_alias 40 = .ok (.iadd, 1) := by decide +kernel
theorem d_M_alias_41 : decode b_M_alias 41 = .ok (.iaload, 1) := by decide +kernel
theorem d_M_alias_42 : decode b_M_alias 42 = .ok (.iand, 1) := by decide +kernel
theorem d_M_alias_43 : decode b_M_alias 43 = .ok (.ifCond .eq 7, 3) := by decide +kernel
theorem d_M_alias_46 : decode b_M_alias 46 = .ok (.iconst 1, 1) := by decide +kernel
theorem d_M_alias_47 : decode b_M_alias 47 = .ok (.goto 4, 3) := by decide +kernel
theorem d_M_alias_50 : decode b_M_alias 50 = .ok (.iconst 0, 1) := by decide +kernel
theorem d_M_alias_51 : decode b_M_alias 51 = .ok (.ireturn, 1) := by decide +kernel
theorem d_M_call_0 : decode b_M_call 0 = .ok (.iload_n 1, 1) := by decide +kernel
theorem d_M_call_1 : decode b_M_call 1 = .ok (.iconst 3, 1) := by decide +kernel
theorem d_M_call_2 : decode b_M_call 2 = .ok (.invokestatic 71, 3) := by decide +kernel
theorem d_M_call_5 : decode b_M_call 5 = .ok (.ifCond .eq 11, 3) := by decide +kernel
theorem d_M_call_8 : decode b_M_call 8 = .ok (.iload_n 2, 1) := by decide +kernel
theorem d_M_call_9 : decode b_M_call 9 = .ok (.iconst 3, 1) := by decide +kernel
theorem d_M_call_10 : decode b_M_call 10 = .ok (.invokestatic 71, 3) := by decide +kernel
theorem d_M_call_13 : decode b_M_call 13 = .ok (.ifCond .ne 5, 3) := by decide +kernel
theorem d_M_call_16 : decode b_M_call 16 = .ok (.iconst (-1), 1) := by decide +kernel
theorem d_M_call_17 : decode b_M_call 17 = .ok (.ireturn, 1) := by decide +kernel
theorem d_M_call_18 : decode b_M_call 18 = .ok (.aload_n 0, 1) := by decide +kernel
theorem d_M_call_19 : decode b_M_call 19 = .ok (.getfield 86, 3) := by decide +kernel
theorem d_M_call_22 : decode b_M_call 22 = .ok (.bipush 8, 2) := by decide +kernel
theorem d_M_call_24 : decode b_M_call 24 = .ok (.if_icmp .ne 6, 3) := by decide +kernel
theorem d_M_call_27 : decode b_M_call 27 = .ok (.bipush (-2), 2) := by decide +kernel
theorem d_M_call_29 : decode b_M_call 29 = .ok (.ireturn, 1) := by decide +kernel
theorem d_M_call_30 : decode b_M_call 30 = .ok (.aload_n 0, 1) := by decide +kernel
theorem d_M_call_31 : decode b_M_call 31 = .ok (.getfield 28, 3) := by decide +kernel
theorem d_M_call_34 : decode b_M_call 34 = .ok (.aload_n 0, 1) := by decide +kernel
theorem d_M_call_35 : decode b_M_call 35 = .ok (.getfield 86, 3) := by decide +kernel
theorem d_M_call_38 : decode b_M_call 38 = .ok (.iload_n 1, 1) := by decide +kernel
theorem d_M_call_39 : decode b_M_call 39 = .ok (.iastore, 1) := by decide +kernel
theorem d_M_call_40 : decode b_M_call 40 = .ok (.aload_n 0, 1) := by decide +kernel
theorem d_M_call_41 : decode b_M_call 41 = .ok (.getfield 31, 3) := by decide +kernel
theorem d_M_call_44 : decode b_M_call 44 = .ok (.aload_n 0, 1) := by decide +kernel
theorem d_M_call_45 : decode b_M_call 45 = .ok (.getfield 86, 3) := by decide +kernel
theorem d_M_call_48 : decode b_M_call 48 = .ok (.iload_n 2, 1) := by decide +kernel
theorem d_M_call_49 : decode b_M_call 49 = .ok (.iastore, 1) := by decide +kernel
theorem d_M_call_50 : decode b_M_call 50 = .ok (.aload_n 0, 1) := by decide +kernel
theorem d_M_call_51 : decode b_M_call 51 = .ok (.dup, 1) := by decide +kernel
theorem d_M_call_52 : decode b_M_call 52 = .ok (.getfield 86, 3) := by decide +kernel
theorem d_M_call_55 : decode b_M_call 55 = .ok (.iconst 1, 1) := by decide +kernel
theorem d_M_call_56 : decode b_M_call 56 = .ok (.iadd, 1) := by decide +kernel
theorem d_M_call_57 : decode b_M_call 57 = .ok (.putfield 86, 3) := by decide +kernel
theorem d_M_call_60 : decode b_M_call 60 = .ok (.aload_n 0, 1) := by decide +kernel
theorem d_M_call_61 : decode b_M_call 61 = .ok (.getfield 86, 3) := by decide +kernel
theorem d_M_call_64 : decode b_M_call 64 = .ok (.iconst 1, 1) := by decide +kernel
theorem d_M_call_65 : decode b_M_call 65 = .ok (.isub, 1) := by decide +kernel
theorem d_M_call_66 : decode b_M_call 66 = .ok (.ireturn, 1) := by decide +kernel
theorem d_M_context_0 : decode b_M_context 0 = .ok (.iload_n 1, 1) := by decide +kernel
theorem d_M_context_1 : decode b_M_context 1 = .ok (.aload_n 0, 1) := by decide +kernel
theorem d_M_context_2 : decode b_M_context 2 = .ok (.getfield 127, 3) := by decide +kernel
theorem d_M_context_5 : decode b_M_context 5 = .ok (.iconst 1, 1) := by decide +kernel
theorem d_M_context_6 : decode b_M_context 6 = .ok (.isub, 1) := by decide +kernel
theorem d_M_context_7 : decode b_M_context 7 = .ok (.invokestatic 71, 3) := by decide +kernel
theorem d_M_context_10 : decode b_M_context 10 = .ok (.ifCond .eq 34, 3) := by decide +kernel
theorem d_M_context_13 : decode b_M_context 13 = .ok (.iload_n 2, 1) := by decide +kernel
theorem d_M_context_14 : decode b_M_context 14 = .ok (.aload_n 0, 1) := by decide +kernel
theorem d_M_context_15 : decode b_M_context 15 = .ok (.getfield 53, 3) := by decide +kernel
theorem d_M_context_18 : decode b_M_context 18 = .ok (.aload_n 0, 1) := by decide +kernel
theorem d_M_context_19 : decode b_M_context 19 = .ok (.getfield 59, 3) := by decide +kernel
theorem d_M_context_22 : decode b_M_context 22 = .ok (.iload_n 1, 1) := by decide +kernel
theorem d_M_context_23 : decode b_M_context 23 = .ok (.iaload, 1) := by decide +kernel
theorem d_M_context_24 : decode b_M_context 24 = .ok (.iaload, 1) := by decide +kernel
theorem d_M_context_25 : decode b_M_context 25 = .ok (.iconst 1, 1) := by decide +kernel
theorem d_M_context_26 : decode b_M_context 26 = .ok (.isub, 1) := by decide +kernel
theorem d_M_context_27 : decode b_M_context 27 = .ok (.invokestatic 71, 3) := by decide +kernel
theorem d_M_context_30 : decode b_M_context 30 = .ok (.ifCond .eq 14, 3) := by decide +kernel
theorem d_M_context_33 : decode b_M_context 33 = .ok (.aload_n 0, 1) := by decide +kernel
theorem d_M_context_34 : decode b_M_context 34 = .ok (.getfield 56, 3) := by decide +kernel
theorem d_M_context_37 : decode b_M_context 37 = .ok (.iload_n 1, 1) := by decide +kernel
theorem d_M_context_38 : decode b_M_context 38 = .ok (.iaload, 1) := by decide +kernel
theorem d_M_context_39 : decode b_M_context 39 = .ok (.iload_n 2, 1) := by decide +kernel
theorem d_M_context_40 : decode b_M_context 40 = .ok (.iadd, 1) := by decide +kernel
theorem d_M_context_41 : decode b_M_context 41 = .ok (.goto 4, 3) := by decide +kernel
theorem d_M_context_44 : decode b_M_context 44 = .ok (.iconst (-1), 1) := by decide +kernel
theorem d_M_context_45 : decode b_M_context 45 = .ok (.ireturn, 1) := by decide +kernel
theorem d_M_contexts_0 : decode b_M_contexts 0 = .ok (.iload_n 1, 1) := by decide +kernel
theorem d_M_contexts_1 : decode b_M_contexts 1 = .ok (.iconst 3, 1) := by decide +kernel
theorem d_M_contexts_2 : decode b_M_contexts 2 = .ok (.invokestatic 71, 3) := by decide +kernel
theorem d_M_contexts_5 : decode b_M_contexts 5 = .ok (.ifCond .eq 12, 3) := by decide +kernel
theorem d_M_contexts_8 : decode b_M_contexts 8 = .ok (.aload_n 0, 1) := by decide +kernel
theorem d_M_contexts_9 : decode b_M_contexts 9 = .ok (.getfield 53, 3) := by decide +kernel
theorem d_M_contexts_12 : decode b_M_contexts 12 = .ok (.iload_n 1, 1) := by decide +kernel
theorem d_M_contexts_13 : decode b_M_contexts 13 = .ok (.iaload, 1) := by decide +kernel
theorem d_M_contexts_14 : decode b_M_contexts 14 = .ok (.goto 4, 3) := by decide +kernel
theorem d_M_contexts_17 : decode b_M_contexts 17 = .ok (.iconst (-1), 1) := by decide +kernel
theorem d_M_contexts_18 : decode b_M_contexts 18 = .ok (.ireturn, 1) := by decide +kernel
theorem d_M_copy_0 : decode b_M_copy 0 = .ok (.iload_n 1, 1) := by decide +kernel
theorem d_M_copy_1 : decode b_M_copy 1 = .ok (.iload_n 2, 1) := by decide +kernel
theorem d_M_copy_2 : decode b_M_copy 2 = .ok (.invokestatic 83, 3) := by decide +kernel
theorem d_M_copy_5 : decode b_M_copy 5 = .ok (.ifCond .eq 14, 3) := by decide +kernel
theorem d_M_copy_8 : decode b_M_copy 8 = .ok (.aload_n 0, 1) := by decide +kernel
theorem d_M_copy_9 : decode b_M_copy 9 = .ok (.iconst 1, 1) := by decide +kernel
theorem d_M_copy_10 : decode b_M_copy 10 = .ok (.iload_n 1, 1) := by decide +kernel
theorem d_M_copy_11 : decode b_M_copy 11 = .ok (.iload_n 2, 1) := by decide +kernel
theorem d_M_copy_12 : decode b_M_copy 12 = .ok (.iconst 0, 1) := by decide +kernel
theorem d_M_copy_13 : decode b_M_copy 13 = .ok (.invokevirtual 79, 3) := by decide +kernel
theorem d_M_copy_16 : decode b_M_copy 16 = .ok (.goto 4, 3) := by decide +kernel
theorem d_M_copy_19 : decode b_M_copy 19 = .ok (.iconst (-1), 1) := by decide +kernel
theorem d_M_copy_20 : decode b_M_copy 20 = .ok (.ireturn, 1) := by decide +kernel
theorem d_M_holds_0 : decode b_M_holds 0 = .ok (.iload_n 1, 1) := by decide +kernel
theorem d_M_holds_1 : decode b_M_holds 1 = .ok (.bipush 7, 2) := by decide +kernel
theorem d_M_holds_3 : decode b_M_holds 3 = .ok (.invokestatic 71, 3) := by decide +kernel
theorem d_M_holds_6 : decode b_M_holds 6 = .ok (.ifCond .eq 24, 3) := by decide +kernel
theorem d_M_holds_9 : decode b_M_holds 9 = .ok (.iload_n 2, 1) := by decide +kernel
theorem d_M_holds_10 : decode b_M_holds 10 = .ok (.iconst 1, 1) := by decide +kernel
theorem d_M_holds_11 : decode b_M_holds 11 = .ok (.invokestatic 71, 3) := by decide +kernel
theorem d_M_holds_14 : decode b_M_holds 14 = .ok (.ifCond .eq 16, 3) := by decide +kernel
theorem d_M_holds_17 : decode b_M_holds 17 = .ok (.aload_n 0, 1) := by decide +kernel
theorem d_M_holds_18 : decode b_M_holds 18 = .ok (.getfield 65, 3) := by decide +kernel
theorem d_M_holds_21 : decode b_M_holds 21 = .ok (.iconst 2, 1) := by decide +kernel
theorem d_M_holds_22 : decode b_M_holds 22 = .ok (.iload_n 1, 1) := by decide +kernel
theorem d_M_holds_23 : decode b_M_holds 23 = .ok (.imul, 1) := by decide +kernel
theorem d_M_holds_24 : decode b_M_holds 24 = .ok (.iload_n 2, 1) := by decide +kernel
theorem d_M_holds_25 : decode b_M_holds 25 = .ok (.iadd, 1) := by decide +kernel
theorem d_M_holds_26 : decode b_M_holds 26 = .ok (.iaload, 1) := by decide +kernel
theorem d_M_holds_27 : decode b_M_holds 27 = .ok (.goto 4, 3) := by decide +kernel
theorem d_M_holds_30 : decode b_M_holds 30 = .ok (.iconst 0, 1) := by decide +kernel
theorem d_M_holds_31 : decode b_M_holds 31 = .ok (.ireturn, 1) := by decide +kernel
theorem d_M_in_0 : decode b_M_in 0 = .ok (.iload_n 0, 1) := by decide +kernel
theorem d_M_in_1 : decode b_M_in 1 = .ok (.ifCond .lt 12, 3) := by decide +kernel
theorem d_M_in_4 : decode b_M_in 4 = .ok (.iload_n 0, 1) := by decide +kernel
theorem d_M_in_5 : decode b_M_in 5 = .ok (.iload_n 1, 1) := by decide +kernel
theorem d_M_in_6 : decode b_M_in 6 = .ok (.if_icmp .gt 7, 3) := by decide +kernel
theorem d_M_in_9 : decode b_M_in 9 = .ok (.iconst 1, 1) := by decide +kernel
theorem d_M_in_10 : decode b_M_in 10 = .ok (.goto 4, 3) := by decide +kernel
theorem d_M_in_13 : decode b_M_in 13 = .ok (.iconst 0, 1) := by decide +kernel
theorem d_M_in_14 : decode b_M_in 14 = .ok (.ireturn, 1) := by decide +kernel
theorem d_M_isContext_0 : decode b_M_isContext 0 = .ok (.iload_n 2, 1) := by decide +kernel
theorem d_M_isContext_1 : decode b_M_isContext 1 = .ok (.bipush 15, 2) := by decide +kernel
theorem d_M_isContext_3 : decode b_M_isContext 3 = .ok (.invokestatic 71, 3) := by decide +kernel
theorem d_M_isContext_6 : decode b_M_isContext 6 = .ok (.ifCond .eq 24, 3) := by decide +kernel
theorem d_M_isContext_9 : decode b_M_isContext 9 = .ok (.iload_n 1, 1) := by decide +kernel
theorem d_M_isContext_10 : decode b_M_isContext 10 = .ok (.aload_n 0, 1) := by decide +kernel
theorem d_M_isContext_11 : decode b_M_isContext 11 = .ok (.getfield 53, 3) := by decide +kernel
theorem d_M_isContext_14 : decode b_M_isContext 14 = .ok (.iload_n 2, 1) := by decide +kernel
theorem d_M_isContext_15 : decode b_M_isContext 15 = .ok (.iconst 4, 1) := by decide +kernel
theorem d_M_isContext_16 : decode b_M_isContext 16 = .ok (.idiv, 1) := by decide +kernel
theorem d_M_isContext_17 : decode b_M_isContext 17 = .ok (.iaload, 1) := by decide +kernel
theorem d_M_isContext_18 : decode b_M_isContext 18 = .ok (.iconst 1, 1) := by decide +kernel
theorem d_M_isContext_19 : decode b_M_isContext 19 = .ok (.isub, 1) := by decide +kernel
theorem d_M_isContext_20 : decode b_M_isContext 20 = .ok (.invokestatic 71, 3) := by decide +kernel
theorem d_M_isContext_23 : decode b_M_isContext 23 = .ok (.ifCond .eq 7, 3) := by decide +kernel
theorem d_M_isContext_26 : decode b_M_isContext 26 = .ok (.iconst 1, 1) := by decide +kernel
theorem d_M_isContext_27 : decode b_M_isContext 27 = .ok (.goto 4, 3) := by decide +kernel
theorem d_M_isContext_30 : decode b_M_isContext 30 = .ok (.iconst 0, 1) := by decide +kernel
theorem d_M_isContext_31 : decode b_M_isContext 31 = .ok (.ireturn, 1) := by decide +kernel
theorem d_M_kind_0 : decode b_M_kind 0 = .ok (.iload_n 1, 1) := by decide +kernel
theorem d_M_kind_1 : decode b_M_kind 1 = .ok (.bipush 7, 2) := by decide +kernel
theorem d_M_kind_3 : decode b_M_kind 3 = .ok (.invokestatic 71, 3) := by decide +kernel
theorem d_M_kind_6 : decode b_M_kind 6 = .ok (.ifCond .eq 11, 3) := by decide +kernel
theorem d_M_kind_9 : decode b_M_kind 9 = .ok (.iload_n 2, 1) := by decide +kernel
theorem d_M_kind_10 : decode b_M_kind 10 = .ok (.iconst 3, 1) := by decide +kernel
theorem d_M_kind_11 : decode b_M_kind 11 = .ok (.invokestatic 71, 3) := by decide +kernel
theorem d_M_kind_14 : decode b_M_kind 14 = .ok (.ifCond .ne 5, 3) := by decide +kernel
theorem d_M_kind_17 : decode b_M_kind 17 = .ok (.iconst 0, 1) := by decide +kernel
theorem d_M_kind_18 : decode b_M_kind 18 = .ok (.ireturn, 1) := by decide +kernel
theorem d_M_kind_19 : decode b_M_kind 19 = .ok (.aload_n 0, 1) := by decide +kernel
theorem d_M_kind_20 : decode b_M_kind 20 = .ok (.getfield 7, 3) := by decide +kernel
theorem d_M_kind_23 : decode b_M_kind 23 = .ok (.iload_n 1, 1) := by decide +kernel
theorem d_M_kind_24 : decode b_M_kind 24 = .ok (.iload_n 2, 1) := by decide +kernel
theorem d_M_kind_25 : decode b_M_kind 25 = .ok (.iastore, 1) := by decide +kernel
theorem d_M_kind_26 : decode b_M_kind 26 = .ok (.iconst 1, 1) := by decide +kernel
theorem d_M_kind_27 : decode b_M_kind 27 = .ok (.ireturn, 1) := by decide +kernel
theorem d_M_load_0 : decode b_M_load 0 = .ok (.iload_n 1, 1) := by decide +kernel
theorem d_M_load_1 : decode b_M_load 1 = .ok (.iload_n 2, 1) := by decide +kernel
theorem d_M_load_2 : decode b_M_load 2 = .ok (.invokestatic 83, 3) := by decide +kernel
theorem d_M_load_5 : decode b_M_load 5 = .ok (.ifCond .eq 22, 3) := by decide +kernel
theorem d_M_load_8 : decode b_M_load 8 = .ok (.iload_n 3, 1) := by decide +kernel
theorem d_M_load_9 : decode b_M_load 9 = .ok (.iconst 1, 1) := by decide +kernel
theorem d_M_load_10 : decode b_M_load 10 = .ok (.invokestatic 71, 3) := by decide +kernel
theorem d_M_load_13 : decode b_M_load 13 = .ok (.ifCond .eq 14, 3) := by decide +kernel
theorem d_M_load_16 : decode b_M_load 16 = .ok (.aload_n 0, 1) := by decide +kernel
theorem d_M_load_17 : decode b_M_load 17 = .ok (.iconst 3, 1) := by decide +kernel
theorem d_M_load_18 : decode b_M_load 18 = .ok (.iload_n 1, 1) := by decide +kernel
theorem d_M_load_19 : decode b_M_load 19 = .ok (.iload_n 2, 1) := by decide +kernel
theorem d_M_load_20 : decode b_M_load 20 = .ok (.iload_n 3, 1) := by decide +kernel
theorem d_M_load_21 : decode b_M_load 21 = .ok (.invokevirtual 79, 3) := by decide +kernel
theorem d_M_load_24 : decode b_M_load 24 = .ok (.goto 4, 3) := by decide +kernel
theorem d_M_load_27 : decode b_M_load 27 = .ok (.iconst (-1), 1) := by decide +kernel
theorem d_M_load_28 : decode b_M_load 28 = .ok (.ireturn, 1) := by decide +kernel
theorem d_M_make_0 : decode b_M_make 0 = .ok (.iload_n 1, 1) := by decide +kernel
theorem d_M_make_1 : decode b_M_make 1 = .ok (.bipush 15, 2) := by decide +kernel
theorem d_M_make_3 : decode b_M_make 3 = .ok (.invokestatic 71, 3) := by decide +kernel
theorem d_M_make_6 : decode b_M_make 6 = .ok (.ifCond .eq 23, 3) := by decide +kernel
theorem d_M_make_9 : decode b_M_make 9 = .ok (.iload_n 2, 1) := by decide +kernel
theorem d_M_make_10 : decode b_M_make 10 = .ok (.bipush 7, 2) := by decide +kernel
theorem d_M_make_12 : decode b_M_make 12 = .ok (.invokestatic 71, 3) := by decide +kernel
theorem d_M_make_15 : decode b_M_make 15 = .ok (.ifCond .eq 14, 3) := by decide +kernel
theorem d_M_make_18 : decode b_M_make 18 = .ok (.aload_n 0, 1) := by decide +kernel
theorem d_M_make_19 : decode b_M_make 19 = .ok (.iconst 0, 1) := by decide +kernel
theorem d_M_make_20 : decode b_M_make 20 = .ok (.iload_n 1, 1) := by decide +kernel
theorem d_M_make_21 : decode b_M_make 21 = .ok (.iload_n 2, 1) := by decide +kernel
theorem d_M_make_22 : decode b_M_make 22 = .ok (.iconst 0, 1) := by decide +kernel
theorem d_M_make_23 : decode b_M_make 23 = .ok (.invokevirtual 79, 3) := by decide +kernel
theorem d_M_make_26 : decode b_M_make 26 = .ok (.goto 4, 3) := by decide +kernel
theorem d_M_make_29 : decode b_M_make 29 = .ok (.iconst (-1), 1) := by decide +kernel
theorem d_M_make_30 : decode b_M_make 30 = .ok (.ireturn, 1) := by decide +kernel
theorem d_M_order_0 : decode b_M_order 0 = .ok (.iload_n 1, 1) := by decide +kernel
theorem d_M_order_1 : decode b_M_order 1 = .ok (.iconst 5, 1) := by decide +kernel
theorem d_M_order_2 : decode b_M_order 2 = .ok (.invokestatic 71, 3) := by decide +kernel
theorem d_M_order_5 : decode b_M_order 5 = .ok (.ifCond .ne 5, 3) := by decide +kernel
theorem d_M_order_8 : decode b_M_order 8 = .ok (.iconst 0, 1) := by decide +kernel
theorem d_M_order_9 : decode b_M_order 9 = .ok (.ireturn, 1) := by decide +kernel
theorem d_M_order_10 : decode b_M_order 10 = .ok (.aload_n 0, 1) := by decide +kernel
theorem d_M_order_11 : decode b_M_order 11 = .ok (.iload_n 1, 1) := by decide +kernel
theorem d_M_order_12 : decode b_M_order 12 = .ok (.putfield 139, 3) := by decide +kernel
theorem d_M_order_15 : decode b_M_order 15 = .ok (.iconst 1, 1) := by decide +kernel
theorem d_M_order_16 : decode b_M_order 16 = .ok (.ireturn, 1) := by decide +kernel
theorem d_M_points_0 : decode b_M_points 0 = .ok (.aload_n 0, 1) := by decide +kernel
theorem d_M_points_1 : decode b_M_points 1 = .ok (.iload_n 1, 1) := by decide +kernel
theorem d_M_points_2 : decode b_M_points 2 = .ok (.iload_n 2, 1) := by decide +kernel
theorem d_M_points_3 : decode b_M_points 3 = .ok (.invokevirtual 136, 3) := by decide +kernel
theorem d_M_points_6 : decode b_M_points 6 = .ok (.ifCond .eq 17, 3) := by decide +kernel
theorem d_M_points_9 : decode b_M_points 9 = .ok (.aload_n 0, 1) := by decide +kernel
theorem d_M_points_10 : decode b_M_points 10 = .ok (.getfield 62, 3) := by decide +kernel
theorem d_M_points_13 : decode b_M_points 13 = .ok (.bipush 16, 2) := by decide +kernel
theorem d_M_points_15 : decode b_M_points 15 = .ok (.iload_n 1, 1) := by decide +kernel
theorem d_M_points_16 : decode b_M_points 16 = .ok (.imul, 1) := by decide +kernel
theorem d_M_points_17 : decode b_M_points 17 = .ok (.iload_n 2, 1) := by decide +kernel
theorem d_M_points_18 : decode b_M_points 18 = .ok (.iadd, 1) := by decide +kernel
theorem d_M_points_19 : decode b_M_points 19 = .ok (.iaload, 1) := by decide +kernel
theorem d_M_points_20 : decode b_M_points 20 = .ok (.goto 4, 3) := by decide +kernel
theorem d_M_points_23 : decode b_M_points 23 = .ok (.iconst 0, 1) := by decide +kernel
theorem d_M_points_24 : decode b_M_points 24 = .ok (.ireturn, 1) := by decide +kernel
theorem d_M_statement_0 : decode b_M_statement 0 = .ok (.aload_n 0, 1) := by decide +kernel
theorem d_M_statement_1 : decode b_M_statement 1 = .ok (.getfield 75, 3) := by decide +kernel
theorem d_M_statement_4 : decode b_M_statement 4 = .ok (.bipush 40, 2) := by decide +kernel
theorem d_M_statement_6 : decode b_M_statement 6 = .ok (.if_icmp .ne 6, 3) := by decide +kernel
theorem d_M_statement_9 : decode b_M_statement 9 = .ok (.bipush (-2), 2) := by decide +kernel
theorem d_M_statement_11 : decode b_M_statement 11 = .ok (.ireturn, 1) := by decide +kernel
theorem d_M_statement_12 : decode b_M_statement 12 = .ok (.aload_n 0, 1) := by decide +kernel
theorem d_M_statement_13 : decode b_M_statement 13 = .ok (.getfield 16, 3) := by decide +kernel
theorem d_M_statement_16 : decode b_M_statement 16 = .ok (.aload_n 0, 1) := by decide +kernel
theorem d_M_statement_17 : decode b_M_statement 17 = .ok (.getfield 75, 3) := by decide +kernel
theorem d_M_statement_20 : decode b_M_statement 20 = .ok (.iload_n 1, 1) := by decide +kernel
theorem d_M_statement_21 : decode b_M_statement 21 = .ok (.iastore, 1) := by decide +kernel
theorem d_M_statement_22 : decode b_M_statement 22 = .ok (.aload_n 0, 1) := by decide +kernel
theorem d_M_statement_23 : decode b_M_statement 23 = .ok (.getfield 19, 3) := by decide +kernel
theorem d_M_statement_26 : decode b_M_statement 26 = .ok (.aload_n 0, 1) := by decide +kernel
theorem d_M_statement_27 : decode b_M_statement 27 = .ok (.getfield 75, 3) := by decide +kernel
theorem d_M_statement_30 : decode b_M_statement 30 = .ok (.iload_n 2, 1) := by decide +kernel
theorem d_M_statement_31 : decode b_M_statement 31 = .ok (.iastore, 1) := by decide +kernel
theorem d_M_statement_32 : decode b_M_statement 32 = .ok (.aload_n 0, 1) := by decide +kernel
theorem d_M_statement_33 : decode b_M_statement 33 = .ok (.getfield 22, 3) := by decide +kernel
theorem d_M_statement_36 : decode b_M_statement 36 = .ok (.aload_n 0, 1) := by decide +kernel
theorem d_M_statement_37 : decode b_M_statement 37 = .ok (.getfield 75, 3) := by decide +kernel
theorem d_M_statement_40 : decode b_M_statement 40 = .ok (.iload_n 3, 1) := by decide +kernel
theorem d_M_statement_41 : decode b_M_statement 41 = .ok (.iastore, 1) := by decide +kernel
theorem d_M_statement_42 : decode b_M_statement 42 = .ok (.aload_n 0, 1) := by decide +kernel
theorem d_M_statement_43 : decode b_M_statement 43 = .ok (.getfield 25, 3) := by decide +kernel
theorem d_M_statement_46 : decode b_M_statement 46 = .ok (.aload_n 0, 1) := by decide +kernel
theorem d_M_statement_47 : decode b_M_statement 47 = .ok (.getfield 75, 3) := by decide +kernel
theorem d_M_statement_50 : decode b_M_statement 50 = .ok (.iload 4, 2) := by decide +kernel
theorem d_M_statement_52 : decode b_M_statement 52 = .ok (.iastore, 1) := by decide +kernel
theorem d_M_statement_53 : decode b_M_statement 53 = .ok (.aload_n 0, 1) := by decide +kernel
theorem d_M_statement_54 : decode b_M_statement 54 = .ok (.dup, 1) := by decide +kernel
theorem d_M_statement_55 : decode b_M_statement 55 = .ok (.getfield 75, 3) := by decide +kernel
theorem d_M_statement_58 : decode b_M_statement 58 = .ok (.iconst 1, 1) := by decide +kernel
theorem d_M_statement_59 : decode b_M_statement 59 = .ok (.iadd, 1) := by decide +kernel
theorem d_M_statement_60 : decode b_M_statement 60 = .ok (.putfield 75, 3) := by decide +kernel
theorem d_M_statement_63 : decode b_M_statement 63 = .ok (.aload_n 0, 1) := by decide +kernel
theorem d_M_statement_64 : decode b_M_statement 64 = .ok (.getfield 75, 3) := by decide +kernel
theorem d_M_statement_67 : decode b_M_statement 67 = .ok (.ireturn, 1) := by decide +kernel
theorem d_M_store_0 : decode b_M_store 0 = .ok (.iload_n 1, 1) := by decide +kernel
theorem d_M_store_1 : decode b_M_store 1 = .ok (.iload_n 3, 1) := by decide +kernel
theorem d_M_store_2 : decode b_M_store 2 = .ok (.invokestatic 83, 3) := by decide +kernel
theorem d_M_store_5 : decode b_M_store 5 = .ok (.ifCond .eq 22, 3) := by decide +kernel
theorem d_M_store_8 : decode b_M_store 8 = .ok (.iload_n 2, 1) := by decide +kernel
theorem d_M_store_9 : decode b_M_store 9 = .ok (.iconst 1, 1) := by decide +kernel
theorem d_M_store_10 : decode b_M_store 10 = .ok (.invokestatic 71, 3) := by decide +kernel
theorem d_M_store_13 : decode b_M_store 13 = .ok (.ifCond .eq 14, 3) := by decide +kernel
theorem d_M_store_16 : decode b_M_store 16 = .ok (.aload_n 0, 1) := by decide +kernel
theorem d_M_store_17 : decode b_M_store 17 = .ok (.iconst 2, 1) := by decide +kernel
theorem d_M_store_18 : decode b_M_store 18 = .ok (.iload_n 1, 1) := by decide +kernel
theorem d_M_store_19 : decode b_M_store 19 = .ok (.iload_n 3, 1) := by decide +kernel
theorem d_M_store_20 : decode b_M_store 20 = .ok (.iload_n 2, 1) := by decide +kernel
theorem d_M_store_21 : decode b_M_store 21 = .ok (.invokevirtual 79, 3) := by decide +kernel
theorem d_M_store_24 : decode b_M_store 24 = .ok (.goto 4, 3) := by decide +kernel
theorem d_M_store_27 : decode b_M_store 27 = .ok (.iconst (-1), 1) := by decide +kernel
theorem d_M_store_28 : decode b_M_store 28 = .ok (.ireturn, 1) := by decide +kernel
theorem d_M_together_0 : decode b_M_together 0 = .ok (.iload_n 0, 1) := by decide +kernel
theorem d_M_together_1 : decode b_M_together 1 = .ok (.bipush 15, 2) := by decide +kernel
theorem d_M_together_3 : decode b_M_together 3 = .ok (.invokestatic 71, 3) := by decide +kernel
theorem d_M_together_6 : decode b_M_together 6 = .ok (.ifCond .eq 25, 3) := by decide +kernel
theorem d_M_together_9 : decode b_M_together 9 = .ok (.iload_n 1, 1) := by decide +kernel
theorem d_M_together_10 : decode b_M_together 10 = .ok (.bipush 15, 2) := by decide +kernel
theorem d_M_together_12 : decode b_M_together 12 = .ok (.invokestatic 71, 3) := by decide +kernel
theorem d_M_together_15 : decode b_M_together 15 = .ok (.ifCond .eq 16, 3) := by decide +kernel
theorem d_M_together_18 : decode b_M_together 18 = .ok (.iload_n 0, 1) := by decide +kernel
theorem d_M_together_19 : decode b_M_together 19 = .ok (.iconst 4, 1) := by decide +kernel
theorem d_M_together_20 : decode b_M_together 20 = .ok (.idiv, 1) := by decide +kernel
theorem d_M_together_21 : decode b_M_together 21 = .ok (.iload_n 1, 1) := by decide +kernel
theorem d_M_together_22 : decode b_M_together 22 = .ok (.iconst 4, 1) := by decide +kernel
theorem d_M_together_23 : decode b_M_together 23 = .ok (.idiv, 1) := by decide +kernel
theorem d_M_together_24 : decode b_M_together 24 = .ok (.if_icmp .ne 7, 3) := by decide +kernel
theorem d_M_together_27 : decode b_M_together 27 = .ok (.iconst 1, 1) := by decide +kernel
theorem d_M_together_28 : decode b_M_together 28 = .ok (.goto 4, 3) := by decide +kernel
theorem d_M_together_31 : decode b_M_together 31 = .ok (.iconst 0, 1) := by decide +kernel
theorem d_M_together_32 : decode b_M_together 32 = .ok (.ireturn, 1) := by decide +kernel
theorem d_N_areOfOneGroup_0 : decode b_N_areOfOneGroup 0 = .ok (.iload_n 1, 1) := by decide +kernel
theorem d_N_areOfOneGroup_1 : decode b_N_areOfOneGroup 1 = .ok (.iload_n 2, 1) := by decide +kernel
theorem d_N_areOfOneGroup_2 : decode b_N_areOfOneGroup 2 = .ok (.if_icmp .eq 29, 3) := by decide +kernel
theorem d_N_areOfOneGroup_5 : decode b_N_areOfOneGroup 5 = .ok (.aload_n 0, 1) := by decide +kernel
theorem d_N_areOfOneGroup_6 : decode b_N_areOfOneGroup 6 = .ok (.getfield 22, 3) := by decide +kernel
theorem d_N_areOfOneGroup_9 : decode b_N_areOfOneGroup 9 = .ok (.iload_n 1, 1) := by decide +kernel
theorem d_N_areOfOneGroup_10 : decode b_N_areOfOneGroup 10 = .ok (.iaload, 1) := by decide +kernel
theorem d_N_areOfOneGroup_11 : decode b_N_areOfOneGroup 11 = .ok (.iload_n 2, 1) := by decide +kernel
theorem d_N_areOfOneGroup_12 : decode b_N_areOfOneGroup 12 = .ok (.invokestatic 53, 3) := by decide +kernel
theorem d_N_areOfOneGroup_15 : decode b_N_areOfOneGroup 15 = .ok (.ifCond .eq 20, 3) := by decide +kernel
theorem d_N_areOfOneGroup_18 : decode b_N_areOfOneGroup 18 = .ok (.aload_n 0, 1) := by decide +kernel
theorem d_N_areOfOneGroup_19 : decode b_N_areOfOneGroup 19 = .ok (.getfield 22, 3) := by decide +kernel
theorem d_N_areOfOneGroup_22 : decode b_N_areOfOneGroup 22 = .ok (.iload_n 2, 1) := by decide +kernel
theorem d_N_areOfOneGroup_23 : decode b_N_areOfOneGroup 23 = .ok (.iaload, 1) := by decide +kernel
theorem d_N_areOfOneGroup_24 : decode b_N_areOfOneGroup 24 = .ok (.iload_n 1, 1) := by decide +kernel
theorem d_N_areOfOneGroup_25 : decode b_N_areOfOneGroup 25 = .ok (.invokestatic 53, 3) := by decide +kernel
theorem d_N_areOfOneGroup_28 : decode b_N_areOfOneGroup 28 = .ok (.ifCond .eq 7, 3) := by decide +kernel
theorem d_N_areOfOneGroup_31 : decode b_N_areOfOneGroup 31 = .ok (.iconst 1, 1) := by decide +kernel
theorem d_N_areOfOneGroup_32 : decode b_N_areOfOneGroup 32 = .ok (.goto 4, 3) := by decide +kernel
theorem d_N_areOfOneGroup_35 : decode b_N_areOfOneGroup 35 = .ok (.iconst 0, 1) := by decide +kernel
theorem d_N_areOfOneGroup_36 : decode b_N_areOfOneGroup 36 = .ok (.ireturn, 1) := by decide +kernel
theorem d_N_broughtBefore_0 : decode b_N_broughtBefore 0 = .ok (.iconst 0, 1) := by decide +kernel
theorem d_N_broughtBefore_1 : decode b_N_broughtBefore 1 = .ok (.istore 4, 2) := by decide +kernel
theorem d_N_broughtBefore_3 : decode b_N_broughtBefore 3 = .ok (.iconst 0, 1) := by decide +kernel
theorem d_N_broughtBefore_4 : decode b_N_broughtBefore 4 = .ok (.istore 5, 2) := by decide +kernel
theorem d_N_broughtBefore_6 : decode b_N_broughtBefore 6 = .ok (.iload 5, 2) := by decide +kernel
theorem d_N_broughtBefore_8 : decode b_N_broughtBefore 8 = .ok (.iload_n 2, 1) := by decide +kernel
theorem d_N_broughtBefore_9 : decode b_N_broughtBefore 9 = .ok (.if_icmp .ge 51, 3) := by decide +kernel
theorem d_N_broughtBefore_12 : decode b_N_broughtBefore 12 = .ok (.aload_n 0, 1) := by decide +kernel
theorem d_N_broughtBefore_13 : decode b_N_broughtBefore 13 = .ok (.aload_n 1, 1) := by decide +kernel
theorem d_N_broughtBefore_14 : decode b_N_broughtBefore 14 = .ok (.iload 5, 2) := by decide +kernel
theorem d_N_broughtBefore_16 : decode b_N_broughtBefore 16 = .ok (.invokevirtual 67, 3) := by decide +kernel
theorem d_N_broughtBefore_19 : decode b_N_broughtBefore 19 = .ok (.ifCond .eq 35, 3) := by decide +kernel
theorem d_N_broughtBefore_22 : decode b_N_broughtBefore 22 = .ok (.aload_n 0, 1) := by decide +kernel
theorem d_N_broughtBefore_23 : decode b_N_broughtBefore 23 = .ok (.aload_n 1, 1) := by decide +kernel
theorem d_N_broughtBefore_24 : decode b_N_broughtBefore 24 = .ok (.getfield 50, 3) := by decide +kernel
theorem d_N_broughtBefore_27 : decode b_N_broughtBefore 27 = .ok (.iload 5, 2) := by decide +kernel
theorem d_N_broughtBefore_29 : decode b_N_broughtBefore 29 = .ok (.iaload, 1) := by decide +kernel
theorem d_N_broughtBefore_30 : decode b_N_broughtBefore 30 = .ok (.iload_n 3, 1) := by decide +kernel
theorem d_N_broughtBefore_31 : decode b_N_broughtBefore 31 = .ok (.invokevirtual 71, 3) := by decide +kernel
theorem d_N_broughtBefore_34 : decode b_N_broughtBefore 34 = .ok (.ifCond .eq 20, 3) := by decide +kernel
theorem d_N_broughtBefore_37 : decode b_N_broughtBefore 37 = .ok (.iload 4, 2) := by decide +kernel
theorem d_N_broughtBefore_39 : decode b_N_broughtBefore 39 = .ok (.aload_n 0, 1) := by decide +kernel
theorem d_N_broughtBefore_40 : decode b_N_broughtBefore 40 = .ok (.getfield 25, 3) := by decide +kernel
theorem d_N_broughtBefore_43 : decode b_N_broughtBefore 43 = .ok (.aload_n 1, 1) := by decide +kernel
theorem d_N_broughtBefore_44 : decode b_N_broughtBefore 44 = .ok (.getfield 47, 3) := by decide +kernel
theorem d_N_broughtBefore_47 : decode b_N_broughtBefore 47 = .ok (.iload 5, 2) := by decide +kernel
theorem d_N_broughtBefore_49 : decode b_N_broughtBefore 49 = .ok (.iaload, 1) := by decide +kernel
theorem d_N_broughtBefore_50 : decode b_N_broughtBefore 50 = .ok (.iaload, 1) := by decide +kernel
theorem d_N_broughtBefore_51 : decode b_N_broughtBefore 51 = .ok (.iadd, 1) := by decide +kernel
theorem d_N_broughtBefore_52 : decode b_N_broughtBefore 52 = .ok (.istore 4, 2) := by decide +kernel
theorem d_N_broughtBefore_54 : decode b_N_broughtBefore 54 = .ok (.iinc 5 1, 3) := by decide +kernel
theorem d_N_broughtBefore_57 : decode b_N_broughtBefore 57 = .ok (.goto (-51), 3) := by decide +kernel
theorem d_N_broughtBefore_60 : decode b_N_broughtBefore 60 = .ok (.iload 4, 2) := by decide +kernel
theorem d_N_broughtBefore_62 : decode b_N_broughtBefore 62 = .ok (.ireturn, 1) := by decide +kernel
theorem d_N_contextBy_0 : decode b_N_contextBy 0 = .ok (.aload_n 0, 1) := by decide +kernel
theorem d_N_contextBy_1 : decode b_N_contextBy 1 = .ok (.getfield 15, 3) := by decide +kernel
theorem d_N_contextBy_4 : decode b_N_contextBy 4 = .ok (.iload_n 1, 1) := by decide +kernel
theorem d_N_contextBy_5 : decode b_N_contextBy 5 = .ok (.iaload, 1) := by decide +kernel
theorem d_N_contextBy_6 : decode b_N_contextBy 6 = .ok (.iload_n 2, 1) := by decide +kernel
theorem d_N_contextBy_7 : decode b_N_contextBy 7 = .ok (.iadd, 1) := by decide +kernel
theorem d_N_contextBy_8 : decode b_N_contextBy 8 = .ok (.ireturn, 1) := by decide +kernel
theorem d_N_findReached_0 : decode b_N_findReached 0 = .ok (.aload_n 0, 1) := by decide +kernel
theorem d_N_findReached_1 : decode b_N_findReached 1 = .ok (.getfield 22, 3) := by decide +kernel
theorem d_N_findReached_4 : decode b_N_findReached 4 = .ok (.iconst 0, 1) := by decide +kernel
theorem d_N_findReached_5 : decode b_N_findReached 5 = .ok (.invokestatic 28, 3) := by decide +kernel
theorem d_N_findReached_8 : decode b_N_findReached 8 = .ok (.iconst 0, 1) := by decide +kernel
theorem d_N_findReached_9 : decode b_N_findReached 9 = .ok (.istore_n 2, 1) := by decide +kernel
theorem d_N_findReached_10 : decode b_N_findReached 10 = .ok (.iload_n 2, 1) := by decide +kernel
theorem d_N_findReached_11 : decode b_N_findReached 11 = .ok (.aload_n 1, 1) := by decide +kernel
theorem d_N_findReached_12 : decode b_N_findReached 12 = .ok (.getfield 44, 3) := by decide +kernel
theorem d_N_findReached_15 : decode b_N_findReached 15 = .ok (.if_icmp .ge 31, 3) := by decide +kernel
theorem d_N_findReached_18 : decode b_N_findReached 18 = .ok (.aload_n 0, 1) := by decide +kernel
theorem d_N_findReached_19 : decode b_N_findReached 19 = .ok (.getfield 22, 3) := by decide +kernel
theorem d_N_findReached_22 : decode b_N_findReached 22 = .ok (.aload_n 1, 1) := by decide +kernel
theorem d_N_findReached_23 : decode b_N_findReached 23 = .ok (.getfield 47, 3) := by decide +kernel
theorem d_N_findReached_26 : decode b_N_findReached 26 = .ok (.iload_n 2, 1) := by decide +kernel
theorem d_N_findReached_27 : decode b_N_findReached 27 = .ok (.iaload, 1) := by decide +kernel
theorem d_N_findReached_28 : decode b_N_findReached 28 = .ok (.dup2, 1) := by decide +kernel
theorem d_N_findReached_29 : decode b_N_findReached 29 = .ok (.iaload, 1) := by decide +kernel
theorem d_N_findReached_30 : decode b_N_findReached 30 = .ok (.iconst 1, 1) := by decide +kernel
theorem d_N_findReached_31 : decode b_N_findReached 31 = .ok (.aload_n 1, 1) := by decide +kernel
theorem d_N_findReached_32 : decode b_N_findReached 32 = .ok (.getfield 50, 3) := by decide +kernel
theorem d_N_findReached_35 : decode b_N_findReached 35 = .ok (.iload_n 2, 1) := by decide +kernel
theorem d_N_findReached_36 : decode b_N_findReached 36 = .ok (.iaload, 1) := by decide +kernel
theorem d_N_findReached_37 : decode b_N_findReached 37 = .ok (.ishl, 1) := by decide +kernel
theorem d_N_findReached_38 : decode b_N_findReached 38 = .ok (.ior, 1) := by decide +kernel
theorem d_N_findReached_39 : decode b_N_findReached 39 = .ok (.iastore, 1) := by decide +kernel
theorem d_N_findReached_40 : decode b_N_findReached 40 = .ok (.iinc 2 1, 3) := by decide +kernel
theorem d_N_findReached_43 : decode b_N_findReached 43 = .ok (.goto (-33), 3) := by decide +kernel
theorem d_N_findReached_46 : decode b_N_findReached 46 = .ok (.iconst 0, 1) := by decide +kernel
theorem d_N_findReached_47 : decode b_N_findReached 47 = .ok (.istore_n 2, 1) := by decide +kernel
theorem d_N_findReached_48 : decode b_N_findReached 48 = .ok (.iload_n 2, 1) := by decide +kernel
theorem d_N_findReached_49 : decode b_N_findReached 49 = .ok (.iconst 4, 1) := by decide +kernel
theorem d_N_findReached_50 : decode b_N_findReached 50 = .ok (.if_icmp .ge 50, 3) := by decide +kernel
theorem d_N_findReached_53 : decode b_N_findReached 53 = .ok (.iconst 0, 1) := by decide +kernel
theorem d_N_findReached_54 : decode b_N_findReached 54 = .ok (.istore_n 3, 1) := by decide +kernel
theorem d_N_findReached_55 : decode b_N_findReached 55 = .ok (.iload_n 3, 1) := by decide +kernel
theorem d_N_findReached_56 : decode b_N_findReached 56 = .ok (.iconst 4, 1) := by decide +kernel
theorem d_N_findReached_57 : decode b_N_findReached 57 = .ok (.if_icmp .ge 37, 3) := by decide +kernel
theorem d_N_findReached_60 : decode b_N_findReached 60 = .ok (.aload_n 0, 1) := by decide +kernel
theorem d_N_findReached_61 : decode b_N_findReached 61 = .ok (.getfield 22, 3) := by decide +kernel
theorem d_N_findReached_64 : decode b_N_findReached 64 = .ok (.iload_n 3, 1) := by decide +kernel
theorem d_N_findReached_65 : decode b_N_findReached 65 = .ok (.iaload, 1) := by decide +kernel
theorem d_N_findReached_66 : decode b_N_findReached 66 = .ok (.iload_n 2, 1) := by decide +kernel
theorem d_N_findReached_67 : decode b_N_findReached 67 = .ok (.invokestatic 53, 3) := by decide +kernel
theorem d_N_findReached_70 : decode b_N_findReached 70 = .ok (.ifCond .eq 18, 3) := by decide +kernel
theorem d_N_findReached_73 : decode b_N_findReached 73 = .ok (.aload_n 0, 1) := by decide +kernel
theorem d_N_findReached_74 : decode b_N_findReached 74 = .ok (.getfield 22, 3) := by decide +kernel
theorem d_N_findReached_77 : decode b_N_findReached 77 = .ok (.iload_n 3, 1) := by decide +kernel
theorem d_N_findReached_78 : decode b_N_findReached 78 = .ok (.dup2, 1) := by decide +kernel
theorem d_N_findReached_79 : decode b_N_findReached 79 = .ok (.iaload, 1) := by decide +kernel
theorem d_N_findReached_80 : decode b_N_findReached 80 = .ok (.aload_n 0, 1) := by decide +kernel
theorem d_N_findReached_81 : decode b_N_findReached 81 = .ok (.getfield 22, 3) := by decide +kernel
theorem d_N_findReached_84 : decode b_N_findReached 84 = .ok (.iload_n 2, 1) := by decide +kernel
theorem d_N_findReached_85 : decode b_N_findReached 85 = .ok (.iaload, 1) := by decide +kernel
theorem d_N_findReached_86 : decode b_N_findReached 86 = .ok (.ior, 1) := by decide +kernel
theorem d_N_findReached_87 : decode b_N_findReached 87 = .ok (.iastore, 1) := by decide +kernel
theorem d_N_findReached_88 : decode b_N_findReached 88 = .ok (.iinc 3 1, 3) := by decide +kernel
theorem d_N_findReached_91 : decode b_N_findReached 91 = .ok (.goto (-36), 3) := by decide +kernel
theorem d_N_findReached_94 : decode b_N_findReached 94 = .ok (.iinc 2 1, 3) := by decide +kernel
theorem d_N_findReached_97 : decode b_N_findReached 97 = .ok (.goto (-49), 3) := by decide +kernel
theorem d_N_findReached_100 : decode b_N_findReached 100 = .ok (.return_, 1) := by decide +kernel
theorem d_N_isOuter_0 : decode b_N_isOuter 0 = .ok (.aload_n 0, 1) := by decide +kernel
theorem d_N_isOuter_1 : decode b_N_isOuter 1 = .ok (.aload_n 1, 1) := by decide +kernel
theorem d_N_isOuter_2 : decode b_N_isOuter 2 = .ok (.getfield 47, 3) := by decide +kernel
theorem d_N_isOuter_5 : decode b_N_isOuter 5 = .ok (.iload_n 2, 1) := by decide +kernel
theorem d_N_isOuter_6 : decode b_N_isOuter 6 = .ok (.iaload, 1) := by decide +kernel
theorem d_N_isOuter_7 : decode b_N_isOuter 7 = .ok (.aload_n 1, 1) := by decide +kernel
theorem d_N_isOuter_8 : decode b_N_isOuter 8 = .ok (.getfield 50, 3) := by decide +kernel
theorem d_N_isOuter_11 : decode b_N_isOuter 11 = .ok (.iload_n 2, 1) := by decide +kernel
theorem d_N_isOuter_12 : decode b_N_isOuter 12 = .ok (.iaload, 1) := by decide +kernel
theorem d_N_isOuter_13 : decode b_N_isOuter 13 = .ok (.invokevirtual 71, 3) := by decide +kernel
theorem d_N_isOuter_16 : decode b_N_isOuter 16 = .ok (.ifCond .ne 7, 3) := by decide +kernel
theorem d_N_isOuter_19 : decode b_N_isOuter 19 = .ok (.iconst 1, 1) := by decide +kernel
theorem d_N_isOuter_20 : decode b_N_isOuter 20 = .ok (.goto 4, 3) := by decide +kernel
theorem d_N_isOuter_23 : decode b_N_isOuter 23 = .ok (.iconst 0, 1) := by decide +kernel
theorem d_N_isOuter_24 : decode b_N_isOuter 24 = .ok (.ireturn, 1) := by decide +kernel
theorem d_P_accept_0 : decode b_P_accept 0 = .ok (.iload_n 1, 1) := by decide +kernel
theorem d_P_accept_1 : decode b_P_accept 1 = .ok (.bipush 16, 2) := by decide +kernel
theorem d_P_accept_3 : decode b_P_accept 3 = .ok (.invokestatic 41, 3) := by decide +kernel
theorem d_P_accept_6 : decode b_P_accept 6 = .ok (.ifCond .eq 12, 3) := by decide +kernel
theorem d_P_accept_9 : decode b_P_accept 9 = .ok (.iload_n 2, 1) := by decide +kernel
theorem d_P_accept_10 : decode b_P_accept 10 = .ok (.bipush 16, 2) := by decide +kernel
theorem d_P_accept_12 : decode b_P_accept 12 = .ok (.invokestatic 41, 3) := by decide +kernel
theorem d_P_accept_15 : decode b_P_accept 15 = .ok (.ifCond .ne 5, 3) := by decide +kernel
theorem d_P_accept_18 : decode b_P_accept 18 = .ok (.iconst 0, 1) := by decide +kernel
theorem d_P_accept_19 : decode b_P_accept 19 = .ok (.ireturn, 1) := by decide +kernel
theorem d_P_accept_20 : decode b_P_accept 20 = .ok (.aload_n 0, 1) := by decide +kernel
theorem d_P_accept_21 : decode b_P_accept 21 = .ok (.getfield 12, 3) := by decide +kernel
theorem d_P_accept_24 : decode b_P_accept 24 = .ok (.getfield 49, 3) := by decide +kernel
theorem d_P_accept_27 : decode b_P_accept 27 = .ok (.iload_n 1, 1) := by decide +kernel
theorem d_P_accept_28 : decode b_P_accept 28 = .ok (.iload_n 2, 1) := by decide +kernel
theorem d_P_accept_29 : decode b_P_accept 29 = .ok (.iastore, 1) := by decide +kernel
theorem d_P_accept_30 : decode b_P_accept 30 = .ok (.iconst 1, 1) := by decide +kernel
theorem d_P_accept_31 : decode b_P_accept 31 = .ok (.ireturn, 1) := by decide +kernel
theorem d_P_alias_0 : decode b_P_alias 0 = .ok (.aload_n 0, 1) := by decide +kernel
theorem d_P_alias_1 : decode b_P_alias 1 = .ok (.iload_n 1, 1) := by decide +kernel
theorem d_P_alias_2 : decode b_P_alias 2 = .ok (.iload_n 2, 1) := by decide +kernel
theorem d_P_alias_3 : decode b_P_alias 3 = .ok (.invokevirtual 82, 3) := by decide +kernel
theorem d_P_alias_6 : decode b_P_alias 6 = .ok (.ifCond .eq 13, 3) := by decide +kernel
theorem d_P_alias_9 : decode b_P_alias 9 = .ok (.aload_n 0, 1) := by decide +kernel
theorem d_P_alias_10 : decode b_P_alias 10 = .ok (.iload_n 3, 1) := by decide +kernel
theorem d_P_alias_11 : decode b_P_alias 11 = .ok (.iload 4, 2) := by decide +kernel
theorem d_P_alias_13 : decode b_P_alias 13 = .ok (.invokevirtual 82, 3) := by decide +kernel
theorem d_P_alias_16 : decode b_P_alias 16 = .ok (.ifCond .ne 5, 3) := by decide +kernel
theorem d_P_alias_19 : decode b_P_alias 19 = .ok (.iconst 0, 1) := by decide +kernel
theorem d_P_alias_20 : decode b_P_alias 20 = .ok (.ireturn, 1) := by decide +kernel
theorem d_P_alias_21 : decode b_P_alias 21 = .ok (.aload_n 0, 1) := by decide +kernel
theorem d_P_alias_22 : decode b_P_alias 22 = .ok (.getfield 26, 3) := by decide +kernel
theorem d_P_alias_25 : decode b_P_alias 25 = .ok (.iload_n 1, 1) := by decide +kernel
theorem d_P_alias_26 : decode b_P_alias 26 = .ok (.iload_n 2, 1) := by decide +kernel
theorem d_P_alias_27 : decode b_P_alias 27 = .ok (.invokevirtual 85, 3) := by decide +kernel
theorem d_P_alias_30 : decode b_P_alias 30 = .ok (.aload_n 0, 1) := by decide +kernel
theorem d_P_alias_31 : decode b_P_alias 31 = .ok (.getfield 26, 3) := by decide +kernel
theorem d_P_alias_34 : decode b_P_alias 34 = .ok (.iload_n 3, 1) := by decide +kernel
theorem d_P_alias_35 : decode b_P_alias 35 = .ok (.iload 4, 2) := by decide +kernel
theorem d_P_alias_37 : decode b_P_alias 37 = .ok (.invokevirtual 85, 3) := by decide +kernel
theorem d_P_alias_40 : decode b_P_alias 40 = .ok (.iand, 1) := by decide +kernel
theorem d_P_alias_41 : decode b_P_alias 41 = .ok (.ifCond .eq 7, 3) := by decide +kernel
theorem d_P_alias_44 : decode b_P_alias 44 = .ok (.iconst 1, 1) := by decide +kernel
theorem d_P_alias_45 : decode b_P_alias 45 = .ok (.goto 4, 3) := by decide +kernel
theorem d_P_alias_48 : decode b_P_alias 48 = .ok (.iconst 0, 1) := by decide +kernel
theorem d_P_alias_49 : decode b_P_alias 49 = .ok (.ireturn, 1) := by decide +kernel
theorem d_P_areOfOneMethod_0 : decode b_P_areOfOneMethod 0 = .ok (.iload_n 1, 1) := by decide +kernel
theorem d_P_areOfOneMethod_1 : decode b_P_areOfOneMethod 1 = .ok (.bipush 16, 2) := by decide +kernel
theorem d_P_areOfOneMethod_3 : decode b_P_areOfOneMethod 3 = .ok (.invokestatic 41, 3) := by decide +kernel
theorem d_P_areOfOneMethod_6 : decode b_P_areOfOneMethod 6 = .ok (.ifCond .eq 18, 3) := by decide +kernel
theorem d_P_areOfOneMethod_9 : decode b_P_areOfOneMethod 9 = .ok (.iload_n 0, 1) := by decide +kernel
theorem d_P_areOfOneMethod_10 : decode b_P_areOfOneMethod 10 = .ok (.iload_n 1, 1) := by decide +kernel
theorem d_P_areOfOneMethod_11 : decode b_P_areOfOneMethod 11 = .ok (.invokestatic 123, 3) := by decide +kernel
theorem d_P_areOfOneMethod_14 : decode b_P_areOfOneMethod 14 = .ok (.invokestatic 127, 3) := by decide +kernel
theorem d_P_areOfOneMethod_17 : decode b_P_areOfOneMethod 17 = .ok (.ifCond .eq 7, 3) := by decide +kernel
theorem d_P_areOfOneMethod_20 : decode b_P_areOfOneMethod 20 = .ok (.iconst 1, 1) := by decide +kernel
theorem d_P_areOfOneMethod_21 : decode b_P_areOfOneMethod 21 = .ok (.goto 4, 3) := by decide +kernel
theorem d_P_areOfOneMethod_24 : decode b_P_areOfOneMethod 24 = .ok (.iconst 0, 1) := by decide +kernel
theorem d_P_areOfOneMethod_25 : decode b_P_areOfOneMethod 25 = .ok (.ireturn, 1) := by decide +kernel
theorem d_P_call_0 : decode b_P_call 0 = .ok (.iload_n 1, 1) := by decide +kernel
theorem d_P_call_1 : decode b_P_call 1 = .ok (.iconst 4, 1) := by decide +kernel
theorem d_P_call_2 : decode b_P_call 2 = .ok (.invokestatic 41, 3) := by decide +kernel
theorem d_P_call_5 : decode b_P_call 5 = .ok (.ifCond .eq 11, 3) := by decide +kernel
theorem d_P_call_8 : decode b_P_call 8 = .ok (.iload_n 2, 1) := by decide +kernel
theorem d_P_call_9 : decode b_P_call 9 = .ok (.iconst 4, 1) := by decide +kernel
theorem d_P_call_10 : decode b_P_call 10 = .ok (.invokestatic 41, 3) := by decide +kernel
theorem d_P_call_13 : decode b_P_call 13 = .ok (.ifCond .ne 5, 3) := by decide +kernel
theorem d_P_call_16 : decode b_P_call 16 = .ok (.iconst (-1), 1) := by decide +kernel
theorem d_P_call_17 : decode b_P_call 17 = .ok (.ireturn, 1) := by decide +kernel
theorem d_P_call_18 : decode b_P_call 18 = .ok (.aload_n 0, 1) := by decide +kernel
theorem d_P_call_19 : decode b_P_call 19 = .ok (.getfield 12, 3) := by decide +kernel
theorem d_P_call_22 : decode b_P_call 22 = .ok (.iload_n 1, 1) := by decide +kernel
theorem d_P_call_23 : decode b_P_call 23 = .ok (.iload_n 2, 1) := by decide +kernel
theorem d_P_call_24 : decode b_P_call 24 = .ok (.invokevirtual 59, 3) := by decide +kernel
theorem d_P_call_27 : decode b_P_call 27 = .ok (.ireturn, 1) := by decide +kernel
theorem d_P_context_0 : decode b_P_context 0 = .ok (.iload_n 1, 1) := by decide +kernel
theorem d_P_context_1 : decode b_P_context 1 = .ok (.aload_n 0, 1) := by decide +kernel
theorem d_P_context_2 : decode b_P_context 2 = .ok (.getfield 19, 3) := by decide +kernel
theorem d_P_context_5 : decode b_P_context 5 = .ok (.getfield 94, 3) := by decide +kernel
theorem d_P_context_8 : decode b_P_context 8 = .ok (.invokestatic 41, 3) := by decide +kernel
theorem d_P_context_11 : decode b_P_context 11 = .ok (.ifCond .ne 5, 3) := by decide +kernel
theorem d_P_context_14 : decode b_P_context 14 = .ok (.iconst (-1), 1) := by decide +kernel
theorem d_P_context_15 : decode b_P_context 15 = .ok (.ireturn, 1) := by decide +kernel
theorem d_P_context_16 : decode b_P_context 16 = .ok (.iload_n 2, 1) := by decide +kernel
theorem d_P_context_17 : decode b_P_context 17 = .ok (.aload_n 0, 1) := by decide +kernel
theorem d_P_context_18 : decode b_P_context 18 = .ok (.getfield 19, 3) := by decide +kernel
theorem d_P_context_21 : decode b_P_context 21 = .ok (.getfield 91, 3) := by decide +kernel
theorem d_P_context_24 : decode b_P_context 24 = .ok (.aload_n 0, 1) := by decide +kernel
theorem d_P_context_25 : decode b_P_context 25 = .ok (.getfield 12, 3) := by decide +kernel
theorem d_P_context_28 : decode b_P_context 28 = .ok (.getfield 97, 3) := by decide +kernel
theorem d_P_context_31 : decode b_P_context 31 = .ok (.iload_n 1, 1) := by decide +kernel
theorem d_P_context_32 : decode b_P_context 32 = .ok (.iaload, 1) := by decide +kernel
theorem d_P_context_33 : decode b_P_context 33 = .ok (.iaload, 1) := by decide +kernel
theorem d_P_context_34 : decode b_P_context 34 = .ok (.invokestatic 41, 3) := by decide +kernel
theorem d_P_context_37 : decode b_P_context 37 = .ok (.ifCond .ne 5, 3) := by decide +kernel
theorem d_P_context_40 : decode b_P_context 40 = .ok (.iconst (-1), 1) := by decide +kernel
theorem d_P_context_41 : decode b_P_context 41 = .ok (.ireturn, 1) := by decide +kernel
theorem d_P_context_42 : decode b_P_context 42 = .ok (.aload_n 0, 1) := by decide +kernel
theorem d_P_context_43 : decode b_P_context 43 = .ok (.getfield 19, 3) := by decide +kernel
theorem d_P_context_46 : decode b_P_context 46 = .ok (.iload_n 1, 1) := by decide +kernel
theorem d_P_context_47 : decode b_P_context 47 = .ok (.iload_n 2, 1) := by decide +kernel
theorem d_P_context_48 : decode b_P_context 48 = .ok (.invokevirtual 100, 3) := by decide +kernel
theorem d_P_context_51 : decode b_P_context 51 = .ok (.ireturn, 1) := by decide +kernel
theorem d_P_contexts_0 : decode b_P_contexts 0 = .ok (.iload_n 1, 1) := by decide +kernel
theorem d_P_contexts_1 : decode b_P_contexts 1 = .ok (.iconst 4, 1) := by decide +kernel
theorem d_P_contexts_2 : decode b_P_contexts 2 = .ok (.invokestatic 41, 3) := by decide +kernel
theorem d_P_contexts_5 : decode b_P_contexts 5 = .ok (.ifCond .ne 5, 3) := by decide +kernel
theorem d_P_contexts_8 : decode b_P_contexts 8 = .ok (.iconst (-1), 1) := by decide +kernel
theorem d_P_contexts_9 : decode b_P_contexts 9 = .ok (.ireturn, 1) := by decide +kernel
theorem d_P_contexts_10 : decode b_P_contexts 10 = .ok (.aload_n 0, 1) := by decide +kernel
theorem d_P_contexts_11 : decode b_P_contexts 11 = .ok (.getfield 19, 3) := by decide +kernel
theorem d_P_contexts_14 : decode b_P_contexts 14 = .ok (.getfield 91, 3) := by decide +kernel
theorem d_P_contexts_17 : decode b_P_contexts 17 = .ok (.iload_n 1, 1) := by decide +kernel
theorem d_P_contexts_18 : decode b_P_contexts 18 = .ok (.iaload, 1) := by decide +kernel
theorem d_P_contexts_19 : decode b_P_contexts 19 = .ok (.ireturn, 1) := by decide +kernel
theorem d_P_copy_0 : decode b_P_copy 0 = .ok (.iload_n 1, 1) := by decide +kernel
theorem d_P_copy_1 : decode b_P_copy 1 = .ok (.iload_n 2, 1) := by decide +kernel
theorem d_P_copy_2 : decode b_P_copy 2 = .ok (.invokestatic 56, 3) := by decide +kernel
theorem d_P_copy_5 : decode b_P_copy 5 = .ok (.ifCond .ne 5, 3) := by decide +kernel
theorem d_P_copy_8 : decode b_P_copy 8 = .ok (.iconst (-1), 1) := by decide +kernel
theorem d_P_copy_9 : decode b_P_copy 9 = .ok (.ireturn, 1) := by decide +kernel
theorem d_P_copy_10 : decode b_P_copy 10 = .ok (.aload_n 0, 1) := by decide +kernel
theorem d_P_copy_11 : decode b_P_copy 11 = .ok (.getfield 12, 3) := by decide +kernel
theorem d_P_copy_14 : decode b_P_copy 14 = .ok (.iconst 1, 1) := by decide +kernel
theorem d_P_copy_15 : decode b_P_copy 15 = .ok (.iload_n 1, 1) := by decide +kernel
theorem d_P_copy_16 : decode b_P_copy 16 = .ok (.iload_n 2, 1) := by decide +kernel
theorem d_P_copy_17 : decode b_P_copy 17 = .ok (.iconst 0, 1) := by decide +kernel
theorem d_P_copy_18 : decode b_P_copy 18 = .ok (.invokevirtual 52, 3) := by decide +kernel
theorem d_P_copy_21 : decode b_P_copy 21 = .ok (.ireturn, 1) := by decide +kernel
theorem d_P_hasBit_0 : decode b_P_hasBit 0 = .ok (.iload_n 0, 1) := by decide +kernel
theorem d_P_hasBit_1 : decode b_P_hasBit 1 = .ok (.iload_n 1, 1) := by decide +kernel
theorem d_P_hasBit_2 : decode b_P_hasBit 2 = .ok (.ishr, 1) := by decide +kernel
theorem d_P_hasBit_3 : decode b_P_hasBit 3 = .ok (.iconst 1, 1) := by decide +kernel
theorem d_P_hasBit_4 : decode b_P_hasBit 4 = .ok (.iand, 1) := by decide +kernel
theorem d_P_hasBit_5 : decode b_P_hasBit 5 = .ok (.ifCond .eq 7, 3) := by decide +kernel
theorem d_P_hasBit_8 : decode b_P_hasBit 8 = .ok (.iconst 1, 1) := by decide +kernel
theorem d_P_hasBit_9 : decode b_P_hasBit 9 = .ok (.goto 4, 3) := by decide +kernel
theorem d_P_hasBit_12 : decode b_P_hasBit 12 = .ok (.iconst 0, 1) := by decide +kernel
theorem d_P_hasBit_13 : decode b_P_hasBit 13 = .ok (.ireturn, 1) := by decide +kernel
theorem d_P_holds_0 : decode b_P_holds 0 = .ok (.iload_n 1, 1) := by decide +kernel
theorem d_P_holds_1 : decode b_P_holds 1 = .ok (.bipush 8, 2) := by decide +kernel
theorem d_P_holds_3 : decode b_P_holds 3 = .ok (.invokestatic 41, 3) := by decide +kernel
theorem d_P_holds_6 : decode b_P_holds 6 = .ok (.ifCond .eq 11, 3) := by decide +kernel
theorem d_P_holds_9 : decode b_P_holds 9 = .ok (.iload_n 2, 1) := by decide +kernel
theorem d_P_holds_10 : decode b_P_holds 10 = .ok (.iconst 2, 1) := by decide +kernel
theorem d_P_holds_11 : decode b_P_holds 11 = .ok (.invokestatic 41, 3) := by decide +kernel
theorem d_P_holds_14 : decode b_P_holds 14 = .ok (.ifCond .ne 5, 3) := by decide +kernel
theorem d_P_holds_17 : decode b_P_holds 17 = .ok (.iconst 0, 1) := by decide +kernel
theorem d_P_holds_18 : decode b_P_holds 18 = .ok (.ireturn, 1) := by decide +kernel
theorem d_P_holds_19 : decode b_P_holds 19 = .ok (.aload_n 0, 1) := by decide +kernel
theorem d_P_holds_20 : decode b_P_holds 20 = .ok (.getfield 26, 3) := by decide +kernel
theorem d_P_holds_23 : decode b_P_holds 23 = .ok (.iload_n 1, 1) := by decide +kernel
theorem d_P_holds_24 : decode b_P_holds 24 = .ok (.iload_n 2, 1) := by decide +kernel
theorem d_P_holds_25 : decode b_P_holds 25 = .ok (.invokevirtual 88, 3) := by decide +kernel
theorem d_P_holds_28 : decode b_P_holds 28 = .ok (.ireturn, 1) := by decide +kernel
theorem d_P_isOfMethod_0 : decode b_P_isOfMethod 0 = .ok (.iload_n 0, 1) := by decide +kernel
theorem d_P_isOfMethod_1 : decode b_P_isOfMethod 1 = .ok (.bipush 16, 2) := by decide +kernel
theorem d_P_isOfMethod_3 : decode b_P_isOfMethod 3 = .ok (.invokestatic 41, 3) := by decide +kernel
theorem d_P_isOfMethod_6 : decode b_P_isOfMethod 6 = .ok (.ifCond .eq 15, 3) := by decide +kernel
theorem d_P_isOfMethod_9 : decode b_P_isOfMethod 9 = .ok (.iload_n 0, 1) := by decide +kernel
theorem d_P_isOfMethod_10 : decode b_P_isOfMethod 10 = .ok (.invokestatic 123, 3) := by decide +kernel
theorem d_P_isOfMethod_13 : decode b_P_isOfMethod 13 = .ok (.iload_n 1, 1) := by decide +kernel
theorem d_P_isOfMethod_14 : decode b_P_isOfMethod 14 = .ok (.if_icmp .ne 7, 3) := by decide +kernel
theorem d_P_isOfMethod_17 : decode b_P_isOfMethod 17 = .ok (.iconst 1, 1) := by decide +kernel
theorem d_P_isOfMethod_18 : decode b_P_isOfMethod 18 = .ok (.goto 4, 3) := by decide +kernel
theorem d_P_isOfMethod_21 : decode b_P_isOfMethod 21 = .ok (.iconst 0, 1) := by decide +kernel
theorem d_P_isOfMethod_22 : decode b_P_isOfMethod 22 = .ok (.ireturn, 1) := by decide +kernel
theorem d_P_isVariableIn_0 : decode b_P_isVariableIn 0 = .ok (.iload_n 2, 1) := by decide +kernel
theorem d_P_isVariableIn_1 : decode b_P_isVariableIn 1 = .ok (.bipush 16, 2) := by decide +kernel
theorem d_P_isVariableIn_3 : decode b_P_isVariableIn 3 = .ok (.invokestatic 41, 3) := by decide +kernel
theorem d_P_isVariableIn_6 : decode b_P_isVariableIn 6 = .ok (.ifCond .eq 26, 3) := by decide +kernel
theorem d_P_isVariableIn_9 : decode b_P_isVariableIn 9 = .ok (.iload_n 1, 1) := by decide +kernel
theorem d_P_isVariableIn_10 : decode b_P_isVariableIn 10 = .ok (.aload_n 0, 1) := by decide +kernel
theorem d_P_isVariableIn_11 : decode b_P_isVariableIn 11 = .ok (.getfield 19, 3) := by decide +kernel
theorem d_P_isVariableIn_14 : decode b_P_isVariableIn 14 = .ok (.getfield 91, 3) := by decide +kernel
theorem d_P_isVariableIn_17 : decode b_P_isVariableIn 17 = .ok (.iload_n 2, 1) := by decide +kernel
theorem d_P_isVariableIn_18 : decode b_P_isVariableIn 18 = .ok (.invokestatic 123, 3) := by decide +kernel
theorem d_P_isVariableIn_21 : decode b_P_isVariableIn 21 = .ok (.iaload, 1) := by decide +kernel
theorem d_P_isVariableIn_22 : decode b_P_isVariableIn 22 = .ok (.invokestatic 41, 3) := by decide +kernel
theorem d_P_isVariableIn_25 : decode b_P_isVariableIn 25 = .ok (.ifCond .eq 7, 3) := by decide +kernel
theorem d_P_isVariableIn_28 : decode b_P_isVariableIn 28 = .ok (.iconst 1, 1) := by decide +kernel
theorem d_P_isVariableIn_29 : decode b_P_isVariableIn 29 = .ok (.goto 4, 3) := by decide +kernel
theorem d_P_isVariableIn_32 : decode b_P_isVariableIn 32 = .ok (.iconst 0, 1) := by decide +kernel
theorem d_P_isVariableIn_33 : decode b_P_isVariableIn 33 = .ok (.ireturn, 1) := by decide +kernel
theorem d_P_isWithin_0 : decode b_P_isWithin 0 = .ok (.iload_n 0, 1) := by decide +kernel
theorem d_P_isWithin_1 : decode b_P_isWithin 1 = .ok (.ifCond .lt 12, 3) := by decide +kernel
theorem d_P_isWithin_4 : decode b_P_isWithin 4 = .ok (.iload_n 0, 1) := by decide +kernel
theorem d_P_isWithin_5 : decode b_P_isWithin 5 = .ok (.iload_n 1, 1) := by decide +kernel
theorem d_P_isWithin_6 : decode b_P_isWithin 6 = .ok (.if_icmp .ge 7, 3) := by decide +kernel
theorem d_P_isWithin_9 : decode b_P_isWithin 9 = .ok (.iconst 1, 1) := by decide +kernel
theorem d_P_isWithin_10 : decode b_P_isWithin 10 = .ok (.goto 4, 3) := by decide +kernel
theorem d_P_isWithin_13 : decode b_P_isWithin 13 = .ok (.iconst 0, 1) := by decide +kernel
theorem d_P_isWithin_14 : decode b_P_isWithin 14 = .ok (.ireturn, 1) := by decide +kernel
theorem d_P_kind_0 : decode b_P_kind 0 = .ok (.iload_n 1, 1) := by decide +kernel
theorem d_P_kind_1 : decode b_P_kind 1 = .ok (.bipush 8, 2) := by decide +kernel
theorem d_P_kind_3 : decode b_P_kind 3 = .ok (.invokestatic 41, 3) := by decide +kernel
theorem d_P_kind_6 : decode b_P_kind 6 = .ok (.ifCond .eq 11, 3) := by decide +kernel
theorem d_P_kind_9 : decode b_P_kind 9 = .ok (.iload_n 2, 1) := by decide +kernel
theorem d_P_kind_10 : decode b_P_kind 10 = .ok (.iconst 4, 1) := by decide +kernel
theorem d_P_kind_11 : decode b_P_kind 11 = .ok (.invokestatic 41, 3) := by decide +kernel
theorem d_P_kind_14 : decode b_P_kind 14 = .ok (.ifCond .ne 5, 3) := by decide +kernel
theorem d_P_kind_17 : decode b_P_kind 17 = .ok (.iconst 0, 1) := by decide +kernel
theorem d_P_kind_18 : decode b_P_kind 18 = .ok (.ireturn, 1) := by decide +kernel
theorem d_P_kind_19 : decode b_P_kind 19 = .ok (.aload_n 0, 1) := by decide +kernel
theorem d_P_kind_20 : decode b_P_kind 20 = .ok (.getfield 12, 3) := by decide +kernel
theorem d_P_kind_23 : decode b_P_kind 23 = .ok (.getfield 45, 3) := by decide +kernel
theorem d_P_kind_26 : decode b_P_kind 26 = .ok (.iload_n 1, 1) := by decide +kernel
theorem d_P_kind_27 : decode b_P_kind 27 = .ok (.iload_n 2, 1) := by decide +kernel
theorem d_P_kind_28 : decode b_P_kind 28 = .ok (.iastore, 1) := by decide +kernel
theorem d_P_kind_29 : decode b_P_kind 29 = .ok (.iconst 1, 1) := by decide +kernel
theorem d_P_kind_30 : decode b_P_kind 30 = .ok (.ireturn, 1) := by decide +kernel
theorem d_P_load_0 : decode b_P_load 0 = .ok (.iload_n 1, 1) := by decide +kernel
theorem d_P_load_1 : decode b_P_load 1 = .ok (.iload_n 2, 1) := by decide +kernel
theorem d_P_load_2 : decode b_P_load 2 = .ok (.invokestatic 56, 3) := by decide +kernel
theorem d_P_load_5 : decode b_P_load 5 = .ok (.ifCond .eq 11, 3) := by decide +kernel
theorem d_P_load_8 : decode b_P_load 8 = .ok (.iload_n 3, 1) := by decide +kernel
theorem d_P_load_9 : decode b_P_load 9 = .ok (.iconst 2, 1) := by decide +kernel
theorem d_P_load_10 : decode b_P_load 10 = .ok (.invokestatic 41, 3) := by decide +kernel
theorem d_P_load_13 : decode b_P_load 13 = .ok (.ifCond .ne 5, 3) := by decide +kernel
theorem d_P_load_16 : decode b_P_load 16 = .ok (.iconst (-1), 1) := by decide +kernel
theorem d_P_load_17 : decode b_P_load 17 = .ok (.ireturn, 1) := by decide +kernel
theorem d_P_load_18 : decode b_P_load 18 = .ok (.aload_n 0, 1) := by decide +kernel
theorem d_P_load_19 : decode b_P_load 19 = .ok (.getfield 12, 3) := by decide +kernel
theorem d_P_load_22 : decode b_P_load 22 = .ok (.iconst 3, 1) := by decide +kernel
theorem d_P_load_23 : decode b_P_load 23 = .ok (.iload_n 1, 1) := by decide +kernel
theorem d_P_load_24 : decode b_P_load 24 = .ok (.iload_n 2, 1) := by decide +kernel
theorem d_P_load_25 : decode b_P_load 25 = .ok (.iload_n 3, 1) := by decide +kernel
theorem d_P_load_26 : decode b_P_load 26 = .ok (.invokevirtual 52, 3) := by decide +kernel
theorem d_P_load_29 : decode b_P_load 29 = .ok (.ireturn, 1) := by decide +kernel
theorem d_P_make_0 : decode b_P_make 0 = .ok (.iload_n 1, 1) := by decide +kernel
theorem d_P_make_1 : decode b_P_make 1 = .ok (.bipush 16, 2) := by decide +kernel
theorem d_P_make_3 : decode b_P_make 3 = .ok (.invokestatic 41, 3) := by decide +kernel
theorem d_P_make_6 : decode b_P_make 6 = .ok (.ifCond .eq 12, 3) := by decide +kernel
theorem d_P_make_9 : decode b_P_make 9 = .ok (.iload_n 2, 1) := by decide +kernel
theorem d_P_make_10 : decode b_P_make 10 = .ok (.bipush 8, 2) := by decide +kernel
theorem d_P_make_12 : decode b_P_make 12 = .ok (.invokestatic 41, 3) := by decide +kernel
theorem d_P_make_15 : decode b_P_make 15 = .ok (.ifCond .ne 5, 3) := by decide +kernel
theorem d_P_make_18 : decode b_P_make 18 = .ok (.iconst (-1), 1) := by decide +kernel
theorem d_P_make_19 : decode b_P_make 19 = .ok (.ireturn, 1) := by decide +kernel
theorem d_P_make_20 : decode b_P_make 20 = .ok (.aload_n 0, 1) := by decide +kernel
theorem d_P_make_21 : decode b_P_make 21 = .ok (.getfield 12, 3) := by decide +kernel
theorem d_P_make_24 : decode b_P_make 24 = .ok (.iconst 0, 1) := by decide +kernel
theorem d_P_make_25 : decode b_P_make 25 = .ok (.iload_n 1, 1) := by decide +kernel
theorem d_P_make_26 : decode b_P_make 26 = .ok (.iload_n 2, 1) := by decide +kernel
theorem d_P_make_27 : decode b_P_make 27 = .ok (.iconst 0, 1) := by decide +kernel
theorem d_P_make_28 : decode b_P_make 28 = .ok (.invokevirtual 52, 3) := by decide +kernel
theorem d_P_make_31 : decode b_P_make 31 = .ok (.ireturn, 1) := by decide +kernel
theorem d_P_methodOf_0 : decode b_P_methodOf 0 = .ok (.iload_n 0, 1) := by decide +kernel
theorem d_P_methodOf_1 : decode b_P_methodOf 1 = .ok (.iconst 4, 1) := by decide +kernel
theorem d_P_methodOf_2 : decode b_P_methodOf 2 = .ok (.idiv, 1) := by decide +kernel
theorem d_P_methodOf_3 : decode b_P_methodOf 3 = .ok (.ireturn, 1) := by decide +kernel
theorem d_P_order_0 : decode b_P_order 0 = .ok (.iload_n 1, 1) := by decide +kernel
theorem d_P_order_1 : decode b_P_order 1 = .ok (.bipush 6, 2) := by decide +kernel
theorem d_P_order_3 : decode b_P_order 3 = .ok (.invokestatic 41, 3) := by decide +kernel
theorem d_P_order_6 : decode b_P_order 6 = .ok (.ifCond .ne 5, 3) := by decide +kernel
theorem d_P_order_9 : decode b_P_order 9 = .ok (.iconst 0, 1) := by decide +kernel
theorem d_P_order_10 : decode b_P_order 10 = .ok (.ireturn, 1) := by decide +kernel
theorem d_P_order_11 : decode b_P_order 11 = .ok (.aload_n 0, 1) := by decide +kernel
theorem d_P_order_12 : decode b_P_order 12 = .ok (.iload_n 1, 1) := by decide +kernel
theorem d_P_order_13 : decode b_P_order 13 = .ok (.putfield 37, 3) := by decide +kernel
theorem d_P_order_16 : decode b_P_order 16 = .ok (.iconst 1, 1) := by decide +kernel
theorem d_P_order_17 : decode b_P_order 17 = .ok (.ireturn, 1) := by decide +kernel
theorem d_P_pass_0 : decode b_P_pass 0 = .ok (.aload_n 0, 1) := by decide +kernel
theorem d_P_pass_1 : decode b_P_pass 1 = .ok (.getfield 12, 3) := by decide +kernel
theorem d_P_pass_4 : decode b_P_pass 4 = .ok (.iload_n 1, 1) := by decide +kernel
theorem d_P_pass_5 : decode b_P_pass 5 = .ok (.iload_n 2, 1) := by decide +kernel
theorem d_P_pass_6 : decode b_P_pass 6 = .ok (.iload_n 3, 1) := by decide +kernel
theorem d_P_pass_7 : decode b_P_pass 7 = .ok (.iload 4, 2) := by decide +kernel
theorem d_P_pass_9 : decode b_P_pass 9 = .ok (.invokevirtual 63, 3) := by decide +kernel
theorem d_P_pass_12 : decode b_P_pass 12 = .ok (.ifCond .ne 5, 3) := by decide +kernel
theorem d_P_pass_15 : decode b_P_pass 15 = .ok (.iconst (-1), 1) := by decide +kernel
theorem d_P_pass_16 : decode b_P_pass 16 = .ok (.ireturn, 1) := by decide +kernel
theorem d_P_pass_17 : decode b_P_pass 17 = .ok (.aload_n 0, 1) := by decide +kernel
theorem d_P_pass_18 : decode b_P_pass 18 = .ok (.getfield 12, 3) := by decide +kernel
theorem d_P_pass_21 : decode b_P_pass 21 = .ok (.iload_n 1, 1) := by decide +kernel
theorem d_P_pass_22 : decode b_P_pass 22 = .ok (.iload_n 2, 1) := by decide +kernel
theorem d_P_pass_23 : decode b_P_pass 23 = .ok (.iload_n 3, 1) := by decide +kernel
theorem d_P_pass_24 : decode b_P_pass 24 = .ok (.iload 4, 2) := by decide +kernel
theorem d_P_pass_26 : decode b_P_pass 26 = .ok (.invokevirtual 67, 3) := by decide +kernel
theorem d_P_pass_29 : decode b_P_pass 29 = .ok (.ireturn, 1) := by decide +kernel
theorem d_P_points_0 : decode b_P_points 0 = .ok (.aload_n 0, 1) := by decide +kernel
theorem d_P_points_1 : decode b_P_points 1 = .ok (.iload_n 1, 1) := by decide +kernel
theorem d_P_points_2 : decode b_P_points 2 = .ok (.iload_n 2, 1) := by decide +kernel
theorem d_P_points_3 : decode b_P_points 3 = .ok (.invokevirtual 82, 3) := by decide +kernel
theorem d_P_points_6 : decode b_P_points 6 = .ok (.ifCond .ne 5, 3) := by decide +kernel
theorem d_P_points_9 : decode b_P_points 9 = .ok (.iconst 0, 1) := by decide +kernel
theorem d_P_points_10 : decode b_P_points 10 = .ok (.ireturn, 1) := by decide +kernel
theorem d_P_points_11 : decode b_P_points 11 = .ok (.aload_n 0, 1) := by decide +kernel
theorem d_P_points_12 : decode b_P_points 12 = .ok (.getfield 26, 3) := by decide +kernel
theorem d_P_points_15 : decode b_P_points 15 = .ok (.iload_n 1, 1) := by decide +kernel
theorem d_P_points_16 : decode b_P_points 16 = .ok (.iload_n 2, 1) := by decide +kernel
theorem d_P_points_17 : decode b_P_points 17 = .ok (.invokevirtual 85, 3) := by decide +kernel
theorem d_P_points_20 : decode b_P_points 20 = .ok (.ireturn, 1) := by decide +kernel
theorem d_P_store_0 : decode b_P_store 0 = .ok (.iload_n 1, 1) := by decide +kernel
theorem d_P_store_1 : decode b_P_store 1 = .ok (.iload_n 3, 1) := by decide +kernel
theorem d_P_store_2 : decode b_P_store 2 = .ok (.invokestatic 56, 3) := by decide +kernel
theorem d_P_store_5 : decode b_P_store 5 = .ok (.ifCond .eq 11, 3) := by decide +kernel
theorem d_P_store_8 : decode b_P_store 8 = .ok (.iload_n 2, 1) := by decide +kernel
theorem d_P_store_9 : decode b_P_store 9 = .ok (.iconst 2, 1) := by decide +kernel
theorem d_P_store_10 : decode b_P_store 10 = .ok (.invokestatic 41, 3) := by decide +kernel
theorem d_P_store_13 : decode b_P_store 13 = .ok (.ifCond .ne 5, 3) := by decide +kernel
theorem d_P_store_16 : decode b_P_store 16 = .ok (.iconst (-1), 1) := by decide +kernel
theorem d_P_store_17 : decode b_P_store 17 = .ok (.ireturn, 1) := by decide +kernel
theorem d_P_store_18 : decode b_P_store 18 = .ok (.aload_n 0, 1) := by decide +kernel
theorem d_P_store_19 : decode b_P_store 19 = .ok (.getfield 12, 3) := by decide +kernel
theorem d_P_store_22 : decode b_P_store 22 = .ok (.iconst 2, 1) := by decide +kernel
theorem d_P_store_23 : decode b_P_store 23 = .ok (.iload_n 1, 1) := by decide +kernel
theorem d_P_store_24 : decode b_P_store 24 = .ok (.iload_n 3, 1) := by decide +kernel
theorem d_P_store_25 : decode b_P_store 25 = .ok (.iload_n 2, 1) := by decide +kernel
theorem d_P_store_26 : decode b_P_store 26 = .ok (.invokevirtual 52, 3) := by decide +kernel
theorem d_P_store_29 : decode b_P_store 29 = .ok (.ireturn, 1) := by decide +kernel
theorem d_T_addHeld_0 : decode b_T_addHeld 0 = .ok (.iconst 0, 1) := by decide +kernel
theorem d_T_addHeld_1 : decode b_T_addHeld 1 = .ok (.istore 4, 2) := by decide +kernel
theorem d_T_addHeld_3 : decode b_T_addHeld 3 = .ok (.iload 4, 2) := by decide +kernel
theorem d_T_addHeld_5 : decode b_T_addHeld 5 = .ok (.bipush 8, 2) := by decide +kernel
theorem d_T_addHeld_7 : decode b_T_addHeld 7 = .ok (.if_icmp .ge 33, 3) := by decide +kernel
theorem d_T_addHeld_10 : decode b_T_addHeld 10 = .ok (.iload_n 1, 1) := by decide +kernel
theorem d_T_addHeld_11 : decode b_T_addHeld 11 = .ok (.iload 4, 2) := by decide +kernel
theorem d_T_addHeld_13 : decode b_T_addHeld 13 = .ok (.invokestatic 60, 3) := by decide +kernel
theorem d_T_addHeld_16 : decode b_T_addHeld 16 = .ok (.ifCond .eq 18, 3) := by decide +kernel
theorem d_T_addHeld_19 : decode b_T_addHeld 19 = .ok (.aload_n 0, 1) := by decide +kernel
theorem d_T_addHeld_20 : decode b_T_addHeld 20 = .ok (.aload_n 0, 1) := by decide +kernel
theorem d_T_addHeld_21 : decode b_T_addHeld 21 = .ok (.getfield 15, 3) := by decide +kernel
theorem d_T_addHeld_24 : decode b_T_addHeld 24 = .ok (.iload 4, 2) := by decide +kernel
theorem d_T_addHeld_26 : decode b_T_addHeld 26 = .ok (.iconst 2, 1) := by decide +kernel
theorem d_T_addHeld_27 : decode b_T_addHeld 27 = .ok (.imul, 1) := by decide +kernel
theorem d_T_addHeld_28 : decode b_T_addHeld 28 = .ok (.iload_n 2, 1) := by decide +kernel
theorem d_T_addHeld_29 : decode b_T_addHeld 29 = .ok (.iadd, 1) := by decide +kernel
theorem d_T_addHeld_30 : decode b_T_addHeld 30 = .ok (.iload_n 3, 1) := by decide +kernel
theorem d_T_addHeld_31 : decode b_T_addHeld 31 = .ok (.invokevirtual 132, 3) := by decide +kernel
theorem d_T_addHeld_34 : decode b_T_addHeld 34 = .ok (.iinc 4 1, 3) := by decide +kernel
theorem d_T_addHeld_37 : decode b_T_addHeld 37 = .ok (.goto (-34), 3) := by decide +kernel
theorem d_T_addHeld_40 : decode b_T_addHeld 40 = .ok (.return_, 1) := by decide +kernel
theorem d_T_addPointed_0 : decode b_T_addPointed 0 = .ok (.aload_n 0, 1) := by decide +kernel
theorem d_T_addPointed_1 : decode b_T_addPointed 1 = .ok (.aload_n 0, 1) := by decide +kernel
theorem d_T_addPointed_2 : decode b_T_addPointed 2 = .ok (.getfield 11, 3) := by decide +kernel
theorem d_T_addPointed_5 : decode b_T_addPointed 5 = .ok (.iload_n 1, 1) := by decide +kernel
theorem d_T_addPointed_6 : decode b_T_addPointed 6 = .ok (.bipush 16, 2) := by decide +kernel
theorem d_T_addPointed_8 : decode b_T_addPointed 8 = .ok (.imul, 1) := by decide +kernel
theorem d_T_addPointed_9 : decode b_T_addPointed 9 = .ok (.iload_n 2, 1) := by decide +kernel
theorem d_T_addPointed_10 : decode b_T_addPointed 10 = .ok (.iadd, 1) := by decide +kernel
theorem d_T_addPointed_11 : decode b_T_addPointed 11 = .ok (.iload_n 3, 1) := by decide +kernel
theorem d_T_addPointed_12 : decode b_T_addPointed 12 = .ok (.aload_n 0, 1) := by decide +kernel
theorem d_T_addPointed_13 : decode b_T_addPointed 13 = .ok (.getfield 18, 3) := by decide +kernel
theorem d_T_addPointed_16 : decode b_T_addPointed 16 = .ok (.iload_n 2, 1) := by decide +kernel
theorem d_T_addPointed_17 : decode b_T_addPointed 17 = .ok (.iaload, 1) := by decide +kernel
theorem d_T_addPointed_18 : decode b_T_addPointed 18 = .ok (.iand, 1) := by decide +kernel
theorem d_T_addPointed_19 : decode b_T_addPointed 19 = .ok (.invokevirtual 132, 3) := by decide +kernel
theorem d_T_addPointed_22 : decode b_T_addPointed 22 = .ok (.return_, 1) := by decide +kernel
theorem d_T_addTo_0 : decode b_T_addTo 0 = .ok (.aload_n 1, 1) := by decide +kernel
theorem d_T_addTo_1 : decode b_T_addTo 1 = .ok (.iload_n 2, 1) := by decide +kernel
theorem d_T_addTo_2 : decode b_T_addTo 2 = .ok (.iaload, 1) := by decide +kernel
theorem d_T_addTo_3 : decode b_T_addTo 3 = .ok (.iload_n 3, 1) := by decide +kernel
theorem d_T_addTo_4 : decode b_T_addTo 4 = .ok (.ior, 1) := by decide +kernel
theorem d_T_addTo_5 : decode b_T_addTo 5 = .ok (.istore 4, 2) := by decide +kernel
theorem d_T_addTo_7 : decode b_T_addTo 7 = .ok (.iload 4, 2) := by decide +kernel
theorem d_T_addTo_9 : decode b_T_addTo 9 = .ok (.aload_n 1, 1) := by decide +kernel
theorem d_T_addTo_10 : decode b_T_addTo 10 = .ok (.iload_n 2, 1) := by decide +kernel
theorem d_T_addTo_11 : decode b_T_addTo 11 = .ok (.iaload, 1) := by decide +kernel
theorem d_T_addTo_12 : decode b_T_addTo 12 = .ok (.if_icmp .eq 13, 3) := by decide +kernel
theorem d_T_addTo_15 : decode b_T_addTo 15 = .ok (.aload_n 1, 1) := by decide +kernel
theorem d_T_addTo_16 : decode b_T_addTo 16 = .ok (.iload_n 2, 1) := by decide +kernel
theorem d_T_addTo_17 : decode b_T_addTo 17 = .ok (.iload 4, 2) := by decide +kernel
theorem d_T_addTo_19 : decode b_T_addTo 19 = .ok (.iastore, 1) := by decide +kernel
theorem d_T_addTo_20 : decode b_T_addTo 20 = .ok (.aload_n 0, 1) := by decide +kernel
theorem d_T_addTo_21 : decode b_T_addTo 21 = .ok (.iconst 1, 1) := by decide +kernel
theorem d_T_addTo_22 : decode b_T_addTo 22 = .ok (.putfield 21, 3) := by decide +kernel
theorem d_T_addTo_25 : decode b_T_addTo 25 = .ok (.return_, 1) := by decide +kernel
theorem d_T_applyCalls_0 : decode b_T_applyCalls 0 = .ok (.iconst 0, 1) := by decide +kernel
theorem d_T_applyCalls_1 : decode b_T_applyCalls 1 = .ok (.istore_n 3, 1) := by decide +kernel
theorem d_T_applyCalls_2 : decode b_T_applyCalls 2 = .ok (.iload_n 3, 1) := by decide +kernel
theorem d_T_applyCalls_3 : decode b_T_applyCalls 3 = .ok (.aload_n 1, 1) := by decide +kernel
theorem d_T_applyCalls_4 : decode b_T_applyCalls 4 = .ok (.getfield 106, 3) := by decide +kernel
theorem d_T_applyCalls_7 : decode b_T_applyCalls 7 = .ok (.if_icmp .ge 53, 3) := by decide +kernel
theorem d_T_applyCalls_10 : decode b_T_applyCalls 10 = .ok (.aload_n 2, 1) := by decide +kernel
theorem d_T_applyCalls_11 : decode b_T_applyCalls 11 = .ok (.getfield 68, 3) := by decide +kernel
theorem d_T_applyCalls_14 : decode b_T_applyCalls 14 = .ok (.aload_n 1, 1) := by decide +kernel
theorem d_T_applyCalls_15 : decode b_T_applyCalls 15 = .ok (.getfield 109, 3) := by decide +kernel
theorem d_T_applyCalls_18 : decode b_T_applyCalls 18 = .ok (.iload_n 3, 1) := by decide +kernel
theorem d_T_applyCalls_19 : decode b_T_applyCalls 19 = .ok (.iaload, 1) := by decide +kernel
theorem d_T_applyCalls_20 : decode b_T_applyCalls 20 = .ok (.iaload, 1) := by decide +kernel
theorem d_T_applyCalls_21 : decode b_T_applyCalls 21 = .ok (.istore 4, 2) := by decide +kernel
theorem d_T_applyCalls_23 : decode b_T_applyCalls 23 = .ok (.iconst 0, 1) := by decide +kernel
theorem d_T_applyCalls_24 : decode b_T_applyCalls 24 = .ok (.istore 5, 2) := by decide +kernel
theorem d_T_applyCalls_26 : decode b_T_applyCalls 26 = .ok (.iload 5, 2) := by decide +kernel
theorem d_T_applyCalls_28 : decode b_T_applyCalls 28 = .ok (.iload 4, 2) := by decide +kernel
theorem d_T_applyCalls_30 : decode b_T_applyCalls 30 = .ok (.if_icmp .ge 24, 3) := by decide +kernel
theorem d_T_applyCalls_33 : decode b_T_applyCalls 33 = .ok (.aload_n 0, 1) := by decide +kernel
theorem d_T_applyCalls_34 : decode b_T_applyCalls 34 = .ok (.aload_n 1, 1) := by decide +kernel
theorem d_T_applyCalls_35 : decode b_T_applyCalls 35 = .ok (.iload_n 3, 1) := by decide +kernel
theorem d_T_applyCalls_36 : decode b_T_applyCalls 36 = .ok (.iload 5, 2) := by decide +kernel
theorem d_T_applyCalls_38 : decode b_T_applyCalls 38 = .ok (.aload_n 2, 1) := by decide +kernel
theorem d_T_applyCalls_39 : decode b_T_applyCalls 39 = .ok (.iload_n 3, 1) := by decide +kernel
theorem d_T_applyCalls_40 : decode b_T_applyCalls 40 = .ok (.iload 5, 2) := by decide +kernel
theorem d_T_applyCalls_42 : decode b_T_applyCalls 42 = .ok (.invokevirtual 112, 3) := by decide +kernel
theorem d_T_applyCalls_45 : decode b_T_applyCalls 45 = .ok (.invokevirtual 115, 3) := by decide +kernel
theorem d_T_applyCalls_48 : decode b_T_applyCalls 48 = .ok (.iinc 5 1, 3) := by decide +kernel
theorem d_T_applyCalls_51 : decode b_T_applyCalls 51 = .ok (.goto (-25), 3) := by decide +kernel
theorem d_T_applyCalls_54 : decode b_T_applyCalls 54 = .ok (.iinc 3 1, 3) := by decide +kernel
theorem d_T_applyCalls_57 : decode b_T_applyCalls 57 = .ok (.goto (-55), 3) := by decide +kernel
theorem d_T_applyCalls_60 : decode b_T_applyCalls 60 = .ok (.return_, 1) := by decide +kernel
theorem d_T_applyPasses_0 : decode b_T_applyPasses 0 = .ok (.iload_n 2, 1) := by decide +kernel
theorem d_T_applyPasses_1 : decode b_T_applyPasses 1 = .ok (.iconst 4, 1) := by decide +kernel
theorem d_T_applyPasses_2 : decode b_T_applyPasses 2 = .ok (.imul, 1) := by decide +kernel
theorem d_T_applyPasses_3 : decode b_T_applyPasses 3 = .ok (.istore 5, 2) := by decide +kernel
theorem d_T_applyPasses_5 : decode b_T_applyPasses 5 = .ok (.iload 5, 2) := by decide +kernel
theorem d_T_applyPasses_7 : decode b_T_applyPasses 7 = .ok (.aload_n 1, 1) := by decide +kernel
theorem d_T_applyPasses_8 : decode b_T_applyPasses 8 = .ok (.getfield 119, 3) := by decide +kernel
theorem d_T_applyPasses_11 : decode b_T_applyPasses 11 = .ok (.iload_n 2, 1) := by decide +kernel
theorem d_T_applyPasses_12 : decode b_T_applyPasses 12 = .ok (.iaload, 1) := by decide +kernel
theorem d_T_applyPasses_13 : decode b_T_applyPasses 13 = .ok (.iadd, 1) := by decide +kernel
theorem d_T_applyPasses_14 : decode b_T_applyPasses 14 = .ok (.istore 6, 2) := by decide +kernel
theorem d_T_applyPasses_16 : decode b_T_applyPasses 16 = .ok (.iload 5, 2) := by decide +kernel
theorem d_T_applyPasses_18 : decode b_T_applyPasses 18 = .ok (.istore 7, 2) := by decide +kernel
theorem d_T_applyPasses_20 : decode b_T_applyPasses 20 = .ok (.iload 7, 2) := by decide +kernel
theorem d_T_applyPasses_22 : decode b_T_applyPasses 22 = .ok (.iload 6, 2) := by decide +kernel
theorem d_T_applyPasses_24 : decode b_T_applyPasses 24 = .ok (.if_icmp .ge 70, 3) := by decide +kernel
theorem d_T_applyPasses_27 : decode b_T_applyPasses 27 = .ok (.aload_n 1, 1) := by decide +kernel
theorem d_T_applyPasses_28 : decode b_T_applyPasses 28 = .ok (.getfield 122, 3) := by decide +kernel
theorem d_T_applyPasses_31 : decode b_T_applyPasses 31 = .ok (.iload 7, 2) := by decide +kernel
theorem d_T_applyPasses_33 : decode b_T_applyPasses 33 = .ok (.iaload, 1) := by decide +kernel
theorem d_T_applyPasses_34 : decode b_T_applyPasses 34 = .ok (.istore 8, 2) := by decide +kernel
theorem d_T_applyPasses_36 : decode b_T_applyPasses 36 = .ok (.aload_n 1, 1) := by decide +kernel
theorem d_T_applyPasses_37 : decode b_T_applyPasses 37 = .ok (.getfield 125, 3) := by decide +kernel
theorem d_T_applyPasses_40 : decode b_T_applyPasses 40 = .ok (.iload 7, 2) := by decide +kernel
theorem d_T_applyPasses_42 : decode b_T_applyPasses 42 = .ok (.iaload, 1) := by decide +kernel
theorem d_T_applyPasses_43 : decode b_T_applyPasses 43 = .ok (.istore 9, 2) := by decide +kernel
theorem d_T_applyPasses_45 : decode b_T_applyPasses 45 = .ok (.aload_n 1, 1) := by decide +kernel
theorem d_T_applyPasses_46 : decode b_T_applyPasses 46 = .ok (.getfield 128, 3) := by decide +kernel
theorem d_T_applyPasses_49 : decode b_T_applyPasses 49 = .ok (.iload 7, 2) := by decide +kernel
theorem d_T_applyPasses_51 : decode b_T_applyPasses 51 = .ok (.baload, 1) := by decide +kernel
theorem d_T_applyPasses_52 : decode b_T_applyPasses 52 = .ok (.ifCond .eq 21, 3) := by decide +kernel
theorem d_T_applyPasses_55 : decode b_T_applyPasses 55 = .ok (.aload_n 0, 1) := by decide +kernel
theorem d_T_applyPasses_56 : decode b_T_applyPasses 56 = .ok (.iload_n 3, 1) := by decide +kernel
theorem d_T_applyPasses_57 : decode b_T_applyPasses 57 = .ok (.iload 8, 2) := by decide +kernel
theorem d_T_applyPasses_59 : decode b_T_applyPasses 59 = .ok (.aload_n 0, 1) := by decide +kernel
theorem d_T_applyPasses_60 : decode b_T_applyPasses 60 = .ok (.iload 4, 2) := by decide +kernel
theorem d_T_applyPasses_62 : decode b_T_applyPasses 62 = .ok (.iload 9, 2) := by decide +kernel
theorem d_T_applyPasses_64 : decode b_T_applyPasses 64 = .ok (.invokevirtual 96, 3) := by decide +kernel
theorem d_T_applyPasses_67 : decode b_T_applyPasses 67 = .ok (.invokevirtual 92, 3) := by decide +kernel
theorem d_T_applyPasses_70 : decode b_T_applyPasses 70 = .ok (.goto 18, 3) := by decide +kernel
theorem d_T_applyPasses_73 : decode b_T_applyPasses 73 = .ok (.aload_n 0, 1) := by decide +kernel
theorem d_T_applyPasses_74 : decode b_T_applyPasses 74 = .ok (.iload 4, 2) := by decide +kernel
theorem d_T_applyPasses_76 : decode b_T_applyPasses 76 = .ok (.iload 8, 2) := by decide +kernel
theorem d_T_applyPasses_78 : decode b_T_applyPasses 78 = .ok (.aload_n 0, 1) := by decide +kernel
theorem d_T_applyPasses_79 : decode b_T_applyPasses 79 = .ok (.iload_n 3, 1) := by decide +kernel
theorem d_T_applyPasses_80 : decode b_T_applyPasses 80 = .ok (.iload 9, 2) := by decide +kernel
theorem d_T_applyPasses_82 : decode b_T_applyPasses 82 = .ok (.invokevirtual 96, 3) := by decide +kernel
theorem d_T_applyPasses_85 : decode b_T_applyPasses 85 = .ok (.invokevirtual 92, 3) := by decide +kernel
theorem d_T_applyPasses_88 : decode b_T_applyPasses 88 = .ok (.iinc 7 1, 3) := by decide +kernel
theorem d_T_applyPasses_91 : decode b_T_applyPasses 91 = .ok (.goto (-71), 3) := by decide +kernel
theorem d_T_applyPasses_94 : decode b_T_applyPasses 94 = .ok (.return_, 1) := by decide +kernel
theorem d_T_applyStatement_0 : decode b_T_applyStatement 0 = .ok (.aload_n 1, 1) := by decide +kernel
theorem d_T_applyStatement_1 : decode b_T_applyStatement 1 = .ok (.getfield 73, 3) := by decide +kernel
theorem d_T_applyStatement_4 : decode b_T_applyStatement 4 = .ok (.iload_n 2, 1) := by decide +kernel
theorem d_T_applyStatement_5 : decode b_T_applyStatement 5 = .ok (.iaload, 1) := by decide +kernel
theorem d_T_applyStatement_6 : decode b_T_applyStatement 6 = .ok (.istore 4, 2) := by decide +kernel
theorem d_T_applyStatement_8 : decode b_T_applyStatement 8 = .ok (.aload_n 1, 1) := by decide +kernel
theorem d_T_applyStatement_9 : decode b_T_applyStatement 9 = .ok (.getfield 83, 3) := by decide +kernel
theorem d_T_applyStatement_12 : decode b_T_applyStatement 12 = .ok (.iload_n 2, 1) := by decide +kernel
theorem d_T_applyStatement_13 : decode b_T_applyStatement 13 = .ok (.iaload, 1) := by decide +kernel
theorem d_T_applyStatement_14 : decode b_T_applyStatement 14 = .ok (.istore 5, 2) := by decide +kernel
theorem d_T_applyStatement_16 : decode b_T_applyStatement 16 = .ok (.aload_n 1, 1) := by decide +kernel
theorem d_T_applyStatement_17 : decode b_T_applyStatement 17 = .ok (.getfield 86, 3) := by decide +kernel
theorem d_T_applyStatement_20 : decode b_T_applyStatement 20 = .ok (.iload_n 2, 1) := by decide +kernel
theorem d_T_applyStatement_21 : decode b_T_applyStatement 21 = .ok (.iaload, 1) := by decide +kernel
theorem d_T_applyStatement_22 : decode b_T_applyStatement 22 = .ok (.istore 6, 2) := by decide +kernel
theorem d_T_applyStatement_24 : decode b_T_applyStatement 24 = .ok (.aload_n 1, 1) := by decide +kernel
theorem d_T_applyStatement_25 : decode b_T_applyStatement 25 = .ok (.getfield 89, 3) := by decide +kernel
theorem d_T_applyStatement_28 : decode b_T_applyStatement 28 = .ok (.iload_n 2, 1) := by decide +kernel
theorem d_T_applyStatement_29 : decode b_T_applyStatement 29 = .ok (.iaload, 1) := by decide +kernel
theorem d_T_applyStatement_30 : decode b_T_applyStatement 30 = .ok (.tableswitch 80 0 2 #[26, 40, 57], 26) := by decide +kernel
theorem d_T_applyStatement_56 : decode b_T_applyStatement 56 = .ok (.aload_n 0, 1) := by decide +kernel
theorem d_T_applyStatement_57 : decode b_T_applyStatement 57 = .ok (.iload_n 3, 1) := by decide +kernel
theorem d_T_applyStatement_58 : decode b_T_applyStatement 58 = .ok (.iload 4, 2) := by decide +kernel
theorem d_T_applyStatement_60 : decode b_T_applyStatement 60 = .ok (.iconst 1, 1) := by decide +kernel
theorem d_T_applyStatement_61 : decode b_T_applyStatement 61 = .ok (.iload 5, 2) := by decide +kernel
theorem d_T_applyStatement_63 : decode b_T_applyStatement 63 = .ok (.ishl, 1) := by decide +kernel
theorem d_T_applyStatement_64 : decode b_T_applyStatement 64 = .ok (.invokevirtual 92, 3) := by decide +kernel
theorem d_T_applyStatement_67 : decode b_T_applyStatement 67 = .ok (.goto 63, 3) := by decide +kernel
theorem d_T_applyStatement_70 : decode b_T_applyStatement 70 = .ok (.aload_n 0, 1) := by decide +kernel
theorem d_T_applyStatement_71 : decode b_T_applyStatement 71 = .ok (.iload_n 3, 1) := by decide +kernel
theorem d_T_applyStatement_72 : decode b_T_applyStatement 72 = .ok (.iload 4, 2) := by decide +kernel
theorem d_T_applyStatement_74 : decode b_T_applyStatement 74 = .ok (.aload_n 0, 1) := by decide +kernel
theorem d_T_applyStatement_75 : decode b_T_applyStatement 75 = .ok (.iload_n 3, 1) := by decide +kernel
theorem d_T_applyStatement_76 : decode b_T_applyStatement 76 = .ok (.iload 5, 2) := by decide +kernel
theorem d_T_applyStatement_78 : decode b_T_applyStatement 78 = .ok (.invokevirtual 96, 3) := by decide +kernel
theorem d_T_applyStatement_81 : decode b_T_applyStatement 81 = .ok (.invokevirtual 92, 3) := by decide +kernel
theorem d_T_applyStatement_84 : decode b_T_applyStatement 84 = .ok (.goto 46, 3) := by decide +kernel
theorem d_T_applyStatement_87 : decode b_T_applyStatement 87 = .ok (.aload_n 0, 1) := by decide +kernel
theorem d_T_applyStatement_88 : decode b_T_applyStatement 88 = .ok (.aload_n 0, 1) := by decide +kernel
theorem d_T_applyStatement_89 : decode b_T_applyStatement 89 = .ok (.iload_n 3, 1) := by decide +kernel
theorem d_T_applyStatement_90 : decode b_T_applyStatement 90 = .ok (.iload 4, 2) := by decide +kernel
theorem d_T_applyStatement_92 : decode b_T_applyStatement 92 = .ok (.invokevirtual 96, 3) := by decide +kernel
theorem d_T_applyStatement_95 : decode b_T_applyStatement 95 = .ok (.iload 6, 2) := by decide +kernel
theorem d_T_applyStatement_97 : decode b_T_applyStatement 97 = .ok (.aload_n 0, 1) := by decide +kernel
theorem d_T_applyStatement_98 : decode b_T_applyStatement 98 = .ok (.iload_n 3, 1) := by decide +kernel
theorem d_T_applyStatement_99 : decode b_T_applyStatement 99 = .ok (.iload 5, 2) := by decide +kernel
theorem d_T_applyStatement_101 : decode b_T_applyStatement 101 = .ok (.invokevirtual 96, 3) := by decide +kernel
theorem d_T_applyStatement_104 : decode b_T_applyStatement 104 = .ok (.invokevirtual 100, 3) := by decide +kernel
theorem d_T_applyStatement_107 : decode b_T_applyStatement 107 = .ok (.goto 23, 3) := by decide +kernel
theorem d_T_applyStatement_110 : decode b_T_applyStatement 110 = .ok (.aload_n 0, 1) := by decide +kernel
theorem d_T_applyStatement_111 : decode b_T_applyStatement 111 = .ok (.iload_n 3, 1) := by decide +kernel
theorem d_T_applyStatement_112 : decode b_T_applyStatement 112 = .ok (.iload 4, 2) := by decide +kernel
theorem d_T_applyStatement_114 : decode b_T_applyStatement 114 = .ok (.aload_n 0, 1) := by decide +kernel
theorem d_T_applyStatement_115 : decode b_T_applyStatement 115 = .ok (.aload_n 0, 1) := by decide +kernel
theorem d_T_applyStatement_116 : decode b_T_applyStatement 116 = .ok (.iload_n 3, 1) := by decide +kernel
theorem d_T_applyStatement_117 : decode b_T_applyStatement 117 = .ok (.iload 5, 2) := by decide +kernel
theorem d_T_applyStatement_119 : decode b_T_applyStatement 119 = .ok (.invokevirtual 96, 3) := by decide +kernel
theorem d_T_applyStatement_122 : decode b_T_applyStatement 122 = .ok (.iload 6, 2) := by decide +kernel
theorem d_T_applyStatement_124 : decode b_T_applyStatement 124 = .ok (.invokevirtual 103, 3) := by decide +kernel
theorem d_T_applyStatement_127 : decode b_T_applyStatement 127 = .ok (.invokevirtual 92, 3) := by decide +kernel
theorem d_T_applyStatement_130 : decode b_T_applyStatement 130 = .ok (.return_, 1) := by decide +kernel
theorem d_T_applyStatements_0 : decode b_T_applyStatements 0 = .ok (.iconst 0, 1) := by decide +kernel
theorem d_T_applyStatements_1 : decode b_T_applyStatements 1 = .ok (.istore_n 3, 1) := by decide +kernel
theorem d_T_applyStatements_2 : decode b_T_applyStatements 2 = .ok (.iload_n 3, 1) := by decide +kernel
theorem d_T_applyStatements_3 : decode b_T_applyStatements 3 = .ok (.aload_n 1, 1) := by decide +kernel
theorem d_T_applyStatements_4 : decode b_T_applyStatements 4 = .ok (.getfield 64, 3) := by decide +kernel
theorem d_T_applyStatements_7 : decode b_T_applyStatements 7 = .ok (.if_icmp .ge 49, 3) := by decide +kernel
theorem d_T_applyStatements_10 : decode b_T_applyStatements 10 = .ok (.aload_n 2, 1) := by decide +kernel
theorem d_T_applyStatements_11 : decode b_T_applyStatements 11 = .ok (.getfield 68, 3) := by decide +kernel
theorem d_T_applyStatements_14 : decode b_T_applyStatements 14 = .ok (.aload_n 1, 1) := by decide +kernel
theorem d_T_applyStatements_15 : decode b_T_applyStatements 15 = .ok (.getfield 73, 3) := by decide +kernel
theorem d_T_applyStatements_18 : decode b_T_applyStatements 18 = .ok (.iload_n 3, 1) := by decide +kernel
theorem d_T_applyStatements_19 : decode b_T_applyStatements 19 = .ok (.iaload, 1) := by decide +kernel
theorem d_T_applyStatements_20 : decode b_T_applyStatements 20 = .ok (.invokestatic 76, 3) := by decide +kernel
theorem d_T_applyStatements_23 : decode b_T_applyStatements 23 = .ok (.iaload, 1) := by decide +kernel
theorem d_T_applyStatements_24 : decode b_T_applyStatements 24 = .ok (.istore 4, 2) := by decide +kernel
theorem d_T_applyStatements_26 : decode b_T_applyStatements 26 = .ok (.iconst 0, 1) := by decide +kernel
theorem d_T_applyStatements_27 : decode b_T_applyStatements 27 = .ok (.istore 5, 2) := by decide +kernel
theorem d_T_applyStatements_29 : decode b_T_applyStatements 29 = .ok (.iload 5, 2) := by decide +kernel
theorem d_T_applyStatements_31 : decode b_T_applyStatements 31 = .ok (.iload 4, 2) := by decide +kernel
theorem d_T_applyStatements_33 : decode b_T_applyStatements 33 = .ok (.if_icmp .ge 17, 3) := by decide +kernel
theorem d_T_applyStatements_36 : decode b_T_applyStatements 36 = .ok (.aload_n 0, 1) := by decide +kernel
theorem d_T_applyStatements_37 : decode b_T_applyStatements 37 = .ok (.aload_n 1, 1) := by decide +kernel
theorem d_T_applyStatements_38 : decode b_T_applyStatements 38 = .ok (.iload_n 3, 1) := by decide +kernel
theorem d_T_applyStatements_39 : decode b_T_applyStatements 39 = .ok (.iload 5, 2) := by decide +kernel
theorem d_T_applyStatements_41 : decode b_T_applyStatements 41 = .ok (.invokevirtual 79, 3) := by decide +kernel
theorem d_T_applyStatements_44 : decode b_T_applyStatements 44 = .ok (.iinc 5 1, 3) := by decide +kernel
theorem d_T_applyStatements_47 : decode b_T_applyStatements 47 = .ok (.goto (-18), 3) := by decide +kernel
theorem d_T_applyStatements_50 : decode b_T_applyStatements 50 = .ok (.iinc 3 1, 3) := by decide +kernel
theorem d_T_applyStatements_53 : decode b_T_applyStatements 53 = .ok (.goto (-51), 3) := by decide +kernel
theorem d_T_applyStatements_56 : decode b_T_applyStatements 56 = .ok (.return_, 1) := by decide +kernel
theorem d_T_findWelcome_0 : decode b_T_findWelcome 0 = .ok (.iconst 0, 1) := by decide +kernel
theorem d_T_findWelcome_1 : decode b_T_findWelcome 1 = .ok (.istore_n 2, 1) := by decide +kernel
theorem d_T_findWelcome_2 : decode b_T_findWelcome 2 = .ok (.iload_n 2, 1) := by decide +kernel
theorem d_T_findWelcome_3 : decode b_T_findWelcome 3 = .ok (.bipush 16, 2) := by decide +kernel
theorem d_T_findWelcome_5 : decode b_T_findWelcome 5 = .ok (.if_icmp .ge 60, 3) := by decide +kernel
theorem d_T_findWelcome_8 : decode b_T_findWelcome 8 = .ok (.iconst 0, 1) := by decide +kernel
theorem d_T_findWelcome_9 : decode b_T_findWelcome 9 = .ok (.istore_n 3, 1) := by decide +kernel
theorem d_T_findWelcome_10 : decode b_T_findWelcome 10 = .ok (.iconst 0, 1) := by decide +kernel
theorem d_T_findWelcome_11 : decode b_T_findWelcome 11 = .ok (.istore 4, 2) := by decide +kernel
theorem d_T_findWelcome_13 : decode b_T_findWelcome 13 = .ok (.iload 4, 2) := by decide +kernel
theorem d_T_findWelcome_15 : decode b_T_findWelcome 15 = .ok (.bipush 8, 2) := by decide +kernel
theorem d_T_findWelcome_17 : decode b_T_findWelcome 17 = .ok (.if_icmp .ge 35, 3) := by decide +kernel
theorem d_T_findWelcome_20 : decode b_T_findWelcome 20 = .ok (.aload_n 1, 1) := by decide +kernel
theorem d_T_findWelcome_21 : decode b_T_findWelcome 21 = .ok (.getfield 52, 3) := by decide +kernel
theorem d_T_findWelcome_24 : decode b_T_findWelcome 24 = .ok (.iload_n 2, 1) := by decide +kernel
theorem d_T_findWelcome_25 : decode b_T_findWelcome 25 = .ok (.iaload, 1) := by decide +kernel
theorem d_T_findWelcome_26 : decode b_T_findWelcome 26 = .ok (.aload_n 1, 1) := by decide +kernel
theorem d_T_findWelcome_27 : decode b_T_findWelcome 27 = .ok (.getfield 57, 3) := by decide +kernel
theorem d_T_findWelcome_30 : decode b_T_findWelcome 30 = .ok (.iload 4, 2) := by decide +kernel
theorem d_T_findWelcome_32 : decode b_T_findWelcome 32 = .ok (.iaload, 1) := by decide +kernel
theorem d_T_findWelcome_33 : decode b_T_findWelcome 33 = .ok (.invokestatic 60, 3) := by decide +kernel
theorem d_T_findWelcome_36 : decode b_T_findWelcome 36 = .ok (.ifCond .eq 10, 3) := by decide +kernel
theorem d_T_findWelcome_39 : decode b_T_findWelcome 39 = .ok (.iload_n 3, 1) := by decide +kernel
theorem d_T_findWelcome_40 : decode b_T_findWelcome 40 = .ok (.iconst 1, 1) := by decide +kernel
theorem d_T_findWelcome_41 : decode b_T_findWelcome 41 = .ok (.iload 4, 2) := by decide +kernel
theorem d_T_findWelcome_43 : decode b_T_findWelcome 43 = .ok (.ishl, 1) := by decide +kernel
theorem d_T_findWelcome_44 : decode b_T_findWelcome 44 = .ok (.ior, 1) := by decide +kernel
theorem d_T_findWelcome_45 : decode b_T_findWelcome 45 = .ok (.istore_n 3, 1) := by decide +kernel
theorem d_T_findWelcome_46 : decode b_T_findWelcome 46 = .ok (.iinc 4 1, 3) := by decide +kernel
theorem d_T_findWelcome_49 : decode b_T_findWelcome 49 = .ok (.goto (-36), 3) := by decide +kernel
theorem d_T_findWelcome_52 : decode b_T_findWelcome 52 = .ok (.aload_n 0, 1) := by decide +kernel
theorem d_T_findWelcome_53 : decode b_T_findWelcome 53 = .ok (.getfield 18, 3) := by decide +kernel
theorem d_T_findWelcome_56 : decode b_T_findWelcome 56 = .ok (.iload_n 2, 1) := by decide +kernel
theorem d_T_findWelcome_57 : decode b_T_findWelcome 57 = .ok (.iload_n 3, 1) := by decide +kernel
theorem d_T_findWelcome_58 : decode b_T_findWelcome 58 = .ok (.iastore, 1) := by decide +kernel
theorem d_T_findWelcome_59 : decode b_T_findWelcome 59 = .ok (.iinc 2 1, 3) := by decide +kernel
theorem d_T_findWelcome_62 : decode b_T_findWelcome 62 = .ok (.goto (-60), 3) := by decide +kernel
theorem d_T_findWelcome_65 : decode b_T_findWelcome 65 = .ok (.return_, 1) := by decide +kernel
theorem d_T_heldIn_0 : decode b_T_heldIn 0 = .ok (.aload_n 0, 1) := by decide +kernel
theorem d_T_heldIn_1 : decode b_T_heldIn 1 = .ok (.getfield 15, 3) := by decide +kernel
theorem d_T_heldIn_4 : decode b_T_heldIn 4 = .ok (.iload_n 1, 1) := by decide +kernel
theorem d_T_heldIn_5 : decode b_T_heldIn 5 = .ok (.iconst 2, 1) := by decide +kernel
theorem d_T_heldIn_6 : decode b_T_heldIn 6 = .ok (.imul, 1) := by decide +kernel
theorem d_T_heldIn_7 : decode b_T_heldIn 7 = .ok (.iload_n 2, 1) := by decide +kernel
theorem d_T_heldIn_8 : decode b_T_heldIn 8 = .ok (.iadd, 1) := by decide +kernel
theorem d_T_heldIn_9 : decode b_T_heldIn 9 = .ok (.iaload, 1) := by decide +kernel
theorem d_T_heldIn_10 : decode b_T_heldIn 10 = .ok (.ireturn, 1) := by decide +kernel
theorem d_T_heldInAny_0 : decode b_T_heldInAny 0 = .ok (.iconst 0, 1) := by decide +kernel
theorem d_T_heldInAny_1 : decode b_T_heldInAny 1 = .ok (.istore_n 3, 1) := by decide +kernel
theorem d_T_heldInAny_2 : decode b_T_heldInAny 2 = .ok (.iconst 0, 1) := by decide +kernel
theorem d_T_heldInAny_3 : decode b_T_heldInAny 3 = .ok (.istore 4, 2) := by decide +kernel
theorem d_T_heldInAny_5 : decode b_T_heldInAny 5 = .ok (.iload 4, 2) := by decide +kernel
theorem d_T_heldInAny_7 : decode b_T_heldInAny 7 = .ok (.bipush 8, 2) := by decide +kernel
theorem d_T_heldInAny_9 : decode b_T_heldInAny 9 = .ok (.if_icmp .ge 28, 3) := by decide +kernel
theorem d_T_heldInAny_12 : decode b_T_heldInAny 12 = .ok (.iload_n 1, 1) := by decide +kernel
theorem d_T_heldInAny_13 : decode b_T_heldInAny 13 = .ok (.iload 4, 2) := by decide +kernel
theorem d_T_heldInAny_15 : decode b_T_heldInAny 15 = .ok (.invokestatic 60, 3) := by decide +kernel
theorem d_T_heldInAny_18 : decode b_T_heldInAny 18 = .ok (.ifCond .eq 13, 3) := by decide +kernel
theorem d_T_heldInAny_21 : decode b_T_heldInAny 21 = .ok (.iload_n 3, 1) := by decide +kernel
theorem d_T_heldInAny_22 : decode b_T_heldInAny 22 = .ok (.aload_n 0, 1) := by decide +kernel
theorem d_T_heldInAny_23 : decode b_T_heldInAny 23 = .ok (.iload 4, 2) := by decide +kernel
theorem d_T_heldInAny_25 : decode b_T_heldInAny 25 = .ok (.iload_n 2, 1) := by decide +kernel
theorem d_T_heldInAny_26 : decode b_T_heldInAny 26 = .ok (.invokevirtual 136, 3) := by decide +kernel
theorem d_T_heldInAny_29 : decode b_T_heldInAny 29 = .ok (.ior, 1) := by decide +kernel
theorem d_T_heldInAny_30 : decode b_T_heldInAny 30 = .ok (.istore_n 3, 1) := by decide +kernel
theorem d_T_heldInAny_31 : decode b_T_heldInAny 31 = .ok (.iinc 4 1, 3) := by decide +kernel
theorem d_T_heldInAny_34 : decode b_T_heldInAny 34 = .ok (.goto (-29), 3) := by decide +kernel
theorem d_T_heldInAny_37 : decode b_T_heldInAny 37 = .ok (.iload_n 3, 1) := by decide +kernel
theorem d_T_heldInAny_38 : decode b_T_heldInAny 38 = .ok (.ireturn, 1) := by decide +kernel
theorem d_T_pointedTo_0 : decode b_T_pointedTo 0 = .ok (.aload_n 0, 1) := by decide +kernel
theorem d_T_pointedTo_1 : decode b_T_pointedTo 1 = .ok (.getfield 11, 3) := by decide +kernel
theorem d_T_pointedTo_4 : decode b_T_pointedTo 4 = .ok (.iload_n 1, 1) := by decide +kernel
theorem d_T_pointedTo_5 : decode b_T_pointedTo 5 = .ok (.bipush 16, 2) := by decide +kernel
theorem d_T_pointedTo_7 : decode b_T_pointedTo 7 = .ok (.imul, 1) := by decide +kernel
theorem d_T_pointedTo_8 : decode b_T_pointedTo 8 = .ok (.iload_n 2, 1) := by decide +kernel
theorem d_T_pointedTo_9 : decode b_T_pointedTo 9 = .ok (.iadd, 1) := by decide +kernel
theorem d_T_pointedTo_10 : decode b_T_pointedTo 10 = .ok (.iaload, 1) := by decide +kernel
theorem d_T_pointedTo_11 : decode b_T_pointedTo 11 = .ok (.ireturn, 1) := by decide +kernel
end
section
/-! the world of the class and of the reference: 49 cells, a number for each place; a judgement over it -/
abbrev sg : Type := Nat → Nat → Nat
def ua (σ : sg) (a : Nat) (g : Nat → Nat) : sg := fun b => if b = a then g else σ b
def us (σ : sg) (a i x : Nat) : sg := ua σ a (va_up (σ a) i x)
theorem ua_eq (σ : sg) (a : Nat) (g : Nat → Nat) : ua σ a g a = g := if_pos rfl
theorem ua_ne {σ : sg} {a b : Nat} {g : Nat → Nat} (h : b ≠ a) : ua σ a g b = σ b := if_neg h
theorem us_eq (σ : sg) (a i x : Nat) : us σ a i x a = va_up (σ a) i x := if_pos rfl
theorem us_ne {σ : sg} {a b i x : Nat} (h : b ≠ a) : us σ a i x b = σ b := if_neg h
theorem up_eq {α : Type} (f : Nat → α) (k : Nat) (x : α) : va_up f k x k = x := if_pos rfl
theorem up_ne {α : Type} {f : Nat → α} {k j : Nat} {x : α} (h : j ≠ k) : va_up f k x j = f j := if_neg h
theorem ua_id (σ : sg) (a : Nat) : ua σ a (σ a) = σ := by
  funext b
  by_cases h : b = a
  · subst h; exact ua_eq _ _ _
  · exact ua_ne h
theorem up_id {α : Type} (f : Nat → α) (k : Nat) : va_up f k (f k) = f := by
  funext b
  by_cases h : b = k
  · subst h; exact up_eq _ _ _
  · exact up_ne h
abbrev wX : Type := va_G × ClassId × ClassId × (Nat → Nat)
def adr (X : wX) (k : Nat) : Nat := X.2.2.2 k
def cf_ (X : wX) (g : Nat → Nat) (q : Bool × Nat) : Value := match q.1 with
  | true => .ref (adr X q.2)
  | false => .int (nI (g q.2))
def cz_ (X : wX) (z : Bool) : ClassId := match z with
  | true => X.2.2.1
  | false => X.2.1
def ce_ (X : wX) (d : kd_) (g : Nat → Nat) : va_E := match d with
  | .inl q => .inl (cz_ X q.1, q.2, .inl (fun j => nI (g j)))
  | .inr q => .inr (q.1, q.2.map (cf_ X g))
def wd_ (X : wX) (σ : sg) : va_W := dz_.mapIdx (fun k d => (adr X k, ce_ X d (σ k)))
theorem wd_at {X : wX} {σ : sg} {k : Nat} {d : kd_} (h : dz_[k]? = some d) : (wd_ X σ)[k]? = some (adr X k, ce_ X d (σ k)) := by
  unfold wd_
  rw [List.getElem?_mapIdx, h]
  rfl
theorem wd_set {X : wX} {σ : sg} {k : Nat} {d : kd_} {g : Nat → Nat} (h : dz_[k]? = some d) : (wd_ X σ).set k (adr X k, ce_ X d g) = wd_ X (ua σ k g) := by
  apply List.ext_getElem?
  intro i
  have hk : k < dz_.length := (List.getElem?_eq_some_iff.mp h).1
  by_cases hi : k = i
  · subst hi
    rw [List.getElem?_set_self (by unfold wd_; rw [List.length_mapIdx]; exact hk), wd_at h, ua_eq]
  · rw [List.getElem?_set_ne hi]
    unfold wd_
    rw [List.getElem?_mapIdx, List.getElem?_mapIdx, ua_ne (fun q => hi q.symm)]
def ai_ (X : wX) : Prop := ∀ i j : Nat, i < 49 → j < 49 → adr X i = adr X j → i = j
def aw_ (X : wX) : Nat → Prop := fun q => ∃ k : Nat, k < 49 ∧ adr X k = q
theorem wd_len (X : wX) (σ : sg) : (wd_ X σ).length = 49 := by unfold wd_; rw [List.length_mapIdx]; rfl
theorem wd_key {X : wX} {σ : sg} {k : Nat} {q : Nat × va_E} (hq : (wd_ X σ)[k]? = some q) : k < 49 ∧ q.1 = adr X k := by
  have hk := (List.getElem?_eq_some_iff.mp hq).1
  rw [wd_len] at hk
  refine ⟨hk, ?_⟩
  unfold wd_ at hq
  rw [List.getElem?_mapIdx] at hq
  cases hd : dz_[k]? with
  | none => rw [hd] at hq; cases hq
  | some d => rw [hd] at hq; cases hq; rfl
theorem wd_D {X : wX} {σ : sg} (h : ai_ X) : va_D (aw_ X) (wd_ X σ) :=
  ⟨fun i j p q hi hj e => h i j (wd_key hi).1 (wd_key hj).1 (by rw [← (wd_key hi).2, ← (wd_key hj).2]; exact e), fun k q hk => ⟨k, (wd_key hk).1, (wd_key hk).2.symm⟩⟩
def tz_ (X : wX) : List (ClassId × FieldType) := [(X.2.1, .int), (X.2.2.1, .boolean)]
theorem nw_warm {w : Cond} {s U : State} (hW : s.WarmedH U.vm) (hn : isN w = true) (h : va_Nw w s) : va_Nw w U := by
  cases w <;> first | exact va_Nw.warmF hW h | exact va_Nw.warmM hW h | (simp [isN] at hn)
theorem nw_same {w : Cond} {s U : State} (hv : s.vm = U.vm) (hn : isN w = true) (h : va_Nw w s) : va_Nw w U := by
  cases w <;> first | exact va_Nw.same rfl hv h | (simp [isN] at hn)
/-- the statics: two tables that nobody writes -/
def zs_ (X : wX) (U : State) (H : Heap) : Prop := ∃ t1 t2 : Nat, va_Z R_D "BITS" "[I" (.ref t1) (aw_ X) U H ∧ va_T .int t1 6 (fun j => .int (nI (bitT.getD j 0))) (aw_ X) U H ∧ va_Z R_D "STANDING" "[I" (.ref t2) (aw_ X) U H ∧ va_T .int t2 18 (fun j => .int (nI (staT.getD j 0))) (aw_ X) U H
def fz_ (X : wX) (U : State) (H : Heap) : Prop := va_K X.1 cl_ (tz_ X) U ∧ ai_ X ∧ (∀ w ∈ nw_, va_Nw w U) ∧ zs_ X U H
theorem fz_moved {X : wX} {s U : State} {H : Heap} {locs : List Loc} (h : fz_ X s s.heap) (hW : s.WarmedH U.vm) (hS : va_S (aw_ X) s.heap H locs) : fz_ X U H := by
  obtain ⟨h1, h2, h3, t1, t2, z1, z2, z3, z4⟩ := h
  exact ⟨va_K.moved hW.alike h1, h2, fun w hw => nw_warm hW (nw_is w hw) (h3 w hw), t1, t2, va_Z.moved hW.alike (va_Z.kept z1 hS.2.1), va_T.moved hW.alike (va_T.kept z2 hS.2.1), va_Z.moved hW.alike (va_Z.kept z3 hS.2.1), va_T.moved hW.alike (va_T.kept z4 hS.2.1)⟩
theorem fz_same {X : wX} {s U : State} {H : Heap} (h : fz_ X s H) (hv : s.vm = U.vm) : fz_ X U H := by
  obtain ⟨h1, h2, h3, t1, t2, z1, z2, z3, z4⟩ := h
  have ha : s.vm.Alike U.vm := by rw [← hv]; exact Vm.Alike.refl _
  exact ⟨va_K.moved ha h1, h2, fun w hw => nw_same hv (nw_is w hw) (h3 w hw), t1, t2, va_Z.moved ha z1, va_T.moved ha z2, va_Z.moved ha z3, va_T.moved ha z4⟩
abbrev rr_ (d : Nat) : Room := { frames := d, cells := 0, slots := 0, locals := 30 * d }
def mq_ (X : wX) (P : Option Value → sg → Prop) : Array Value → State → Outcome → State → Prop := fun _ st oc t => (∃ (r : Option Value) (τ : sg), oc = .returned r ∧ P r τ ∧ va_P X.1 cl_ (wd_ X τ) t.heap) ∧ va_F (aw_ X) st t
/-- a contract over the world -/
def mt_ (l : Launch) (X : wX) (y : MethodName) (ws : List Cond) (d : Nat) (as : List Value) (σ : sg) (P : Option Value → sg → Prop) : Prop :=
  Met l y ws (rr_ d) (va_Pc as (fun U => fz_ X U U.heap ∧ va_P X.1 cl_ (wd_ X σ) U.heap)) (mq_ X P) 0 0 (aw_ X)
section CO
variable {p : Program} {l : Launch} {e : Env} {R : Room} {s : State} {m : MethodId} {args : Array Value} {below : List Frame} {meth : Method} {c : Code} {Q : State → Prop}
variable {X : wX} {nL : Nat} {L : List (Nat × Value)} {σ : sg} {pc : Nat} {st : List Value} {cc : ByteArray} {own : String}
/-- the machine over the world: locals by a list, the heap by the state of the cells -/
def vv_ (p : Program) (l : Launch) (e : Env) (R : Room) (s : State) (m : MethodId) (args : Array Value) (below : List Frame) (meth : Method) (c : Code) (Q : State → Prop) (X : wX) (nL : Nat) (L : List (Nat × Value)) (σ : sg) (pc : Nat) (st : List Value) : Prop :=
  ∀ (H : Heap) (locs : List Loc) (ls : Array Slot), lv_has ls nL L → va_P X.1 cl_ (wd_ X σ) H → va_S (aw_ X) s.heap H locs → W p l e R s m args below meth c H locs 0 0 Q (F0 m pc ls st)
def fx_ (p : Program) (s : State) (m : MethodId) (args : Array Value) (c : Code) (cc : ByteArray) (nL : Nat) (own : String) (X : wX) : Prop := CallFix p m c cc nL s args ak_ own ∧ fz_ X s s.heap
theorem fx_x (F : fx_ p s m args c cc nL own X) : p.tables.exec = Jvm.exec := F.1.1
theorem fx_b (F : fx_ p s m args c cc nL own X) : c.code = cc := F.1.2.1
theorem fx_t (F : fx_ p s m args c cc nL own X) {w : Cond} (h : w ∈ ak_) : w.before args s = true := F.1.2.2.2.2 w h
theorem fx_n (F : fx_ p s m args c cc nL own X) {w : Cond} (h : w ∈ nw_) : w.before args s = true := by
  have h1 := F.2.2.2.1 w h
  have h2 := nw_is w h
  cases w <;> first | exact va_Nw.use rfl h1 | (simp [isN] at h2)
theorem mt_of {y : MethodName} {ret : Option FieldType} {d : Nat} {as : List Value} {P : Option Value → sg → Prop} (ho : y.cls = own) (hy : plainName own = true) (hle : (lg_sl as).length ≤ nL)
    (body : ∀ p e s m args below meth c, fx_ p s m args c cc nL own X → meth.sig.returnType = ret → meth.locks = false → vv_ p l e (rr_ d) s m args below meth c (MQ below (mq_ X P) args s 0 0 (aw_ X)) X nL (lv_args 0 as) σ 0 []) : mt_ l X y (wz_ y cc nL ret) d as σ P := by
  subst ho
  refine Met.ofW (cc := cc) (maxL := nL) (ret := ret) hy rfl ?_
  intro p e s m args below meth c s₁ B hml hv
  obtain ⟨rfl, hF, hP⟩ := hv
  have hts := atoms_spec (ws := wz_ y cc nL ret) B.pre
  have hown : s.vm.findClass y.cls = some m.cls := findClass_of_methodNamed B.named
  have hl := lv_entry as (n := nL) hle
  rw [lg_entry_eq]
  exact body p e s m as.toArray below meth c ⟨⟨B.exec, B.bytes, hml, hown, fun w hw => hts w (List.mem_cons_of_mem _ hw)⟩, hF⟩ B.returns B.notSynchronized s.heap [] _ hl hP va_S.rf
/-! ends -/
theorem qv_ret {P : Option Value → sg → Prop} (F : fx_ p s m args c cc nL own X) (hr : meth.sig.returnType = none) (hlk : meth.locks = false) (hd : decode cc pc = .ok (.return_, 1)) (hp : P none σ) : vv_ p l e R s m args below meth c (MQ below (mq_ X P) args s 0 0 (aw_ X)) X nL L σ pc [] :=
  fun H locs ls _ hP hS => W.vret (fx_x F) (fx_b F) hr (fun t ht _ => ⟨⟨none, σ, rfl, hp, by rw [ht]; exact hP⟩, hS.F ht⟩) hS.2.2 hd hlk
theorem qv_iret {P : Option Value → sg → Prop} {v : Int32} (F : fx_ p s m args c cc nL own X) (hr : meth.sig.returnType = some .int) (hlk : meth.locks = false) (hd : decode cc pc = .ok (.ireturn, 1)) (hp : P (some (.int v)) σ) : vv_ p l e R s m args below meth c (MQ below (mq_ X P) args s 0 0 (aw_ X)) X nL L σ pc [.int v] :=
  fun H locs ls _ hP hS => W.iret (fx_x F) (fx_b F) hr (fun t ht _ => ⟨⟨some (.int v), σ, rfl, hp, by rw [ht]; exact hP⟩, hS.F ht⟩) hS.2.2 hd hlk
theorem qv_zret {P : Option Value → sg → Prop} {v : Int32} (F : fx_ p s m args c cc nL own X) (hr : meth.sig.returnType = some .boolean) (hlk : meth.locks = false) (hn : v = 0 ∨ v = 1) (hd : decode cc pc = .ok (.ireturn, 1)) (hp : P (some (.int v)) σ) : vv_ p l e R s m args below meth c (MQ below (mq_ X P) args s 0 0 (aw_ X)) X nL L σ pc [.int v] :=
  fun H locs ls _ hP hS => W.zret (fx_x F) (fx_b F) hr (by rcases hn with rfl | rfl <;> decide) (fun t ht _ => ⟨⟨some (.int v), σ, rfl, hp, by rw [ht]; exact hP⟩, hS.F ht⟩) hS.2.2 hd hlk
/-! locals and constants -/
theorem qv_sub {L' : List (Nat × Value)} (ks : List Nat) (hl : lv_pick L ks = L') (k : vv_ p l e R s m args below meth c Q X nL L' σ pc st) : vv_ p l e R s m args below meth c Q X nL L σ pc st :=
  fun H locs ls h hP hS => k H locs ls (lv_sub h ks hl) hP hS
theorem qv_st {σ' : sg} (h : σ = σ') (k : vv_ p l e R s m args below meth c Q X nL L σ' pc st) : vv_ p l e R s m args below meth c Q X nL L σ pc st := h ▸ k
theorem qv_stk {st' : List Value} (h : st = st') (k : vv_ p l e R s m args below meth c Q X nL L σ pc st') : vv_ p l e R s m args below meth c Q X nL L σ pc st := h ▸ k
theorem qv_iconst (F : fx_ p s m args c cc nL own X) {n : Int} (v : Int32) (hd : decode cc pc = .ok (.iconst n, 1)) (hv : Int32.ofInt n = v) (k : vv_ p l e R s m args below meth c Q X nL L σ (pc + 1) (.int v :: st)) : vv_ p l e R s m args below meth c Q X nL L σ pc st :=
  fun H locs ls h hP hS => lv_iconst (fx_x F) (fx_b F) hd hv (k H locs ls h hP hS)
theorem qv_bipush (F : fx_ p s m args c cc nL own X) {n : Int} (v : Int32) (hd : decode cc pc = .ok (.bipush n, 2)) (hv : (Int8.ofInt n).toInt32 = v) (k : vv_ p l e R s m args below meth c Q X nL L σ (pc + 2) (.int v :: st)) : vv_ p l e R s m args below meth c Q X nL L σ pc st :=
  fun H locs ls h hP hS => lv_bipush (fx_x F) (fx_b F) hd hv (k H locs ls h hP hS)
theorem qv_sipush (F : fx_ p s m args c cc nL own X) {n : Int} (v : Int32) (hd : decode cc pc = .ok (.sipush n, 3)) (hv : (Int16.ofInt n).toInt32 = v) (k : vv_ p l e R s m args below meth c Q X nL L σ (pc + 3) (.int v :: st)) : vv_ p l e R s m args below meth c Q X nL L σ pc st :=
  fun H locs ls h hP hS => lv_sipush (fx_x F) (fx_b F) hd hv (k H locs ls h hP hS)
theorem qv_iload_n (F : fx_ p s m args c cc nL own X) {i : Fin 4} {x : Int32} (hd : decode cc pc = .ok (.iload_n i, 1)) (j : Nat) (hj : L[j]? = some ((i : Nat), .int x)) (k : vv_ p l e R s m args below meth c Q X nL L σ (pc + 1) (.int x :: st)) : vv_ p l e R s m args below meth c Q X nL L σ pc st :=
  fun H locs ls h hP hS => lv_iload_n (fx_x F) (fx_b F) hd rfl (lv_at h j hj) (k H locs ls h hP hS)
theorem qv_iload (F : fx_ p s m args c cc nL own X) {i : Nat} {x : Int32} (hd : decode cc pc = .ok (.iload i, 2)) (j : Nat) (hj : L[j]? = some (i, .int x)) (k : vv_ p l e R s m args below meth c Q X nL L σ (pc + 2) (.int x :: st)) : vv_ p l e R s m args below meth c Q X nL L σ pc st :=
  fun H locs ls h hP hS => lv_iload (fx_x F) (fx_b F) hd (lv_at h j hj) (k H locs ls h hP hS)
theorem qv_aload_n (F : fx_ p s m args c cc nL own X) {i : Fin 4} {x : Nat} (hd : decode cc pc = .ok (.aload_n i, 1)) (j : Nat) (hj : L[j]? = some ((i : Nat), .ref x)) (k : vv_ p l e R s m args below meth c Q X nL L σ (pc + 1) (.ref x :: st)) : vv_ p l e R s m args below meth c Q X nL L σ pc st :=
  fun H locs ls h hP hS => lv_aload_n (fx_x F) (fx_b F) hd rfl (lv_at h j hj) (k H locs ls h hP hS)
theorem qv_aload (F : fx_ p s m args c cc nL own X) {i : Nat} {x : Nat} (hd : decode cc pc = .ok (.aload i, 2)) (j : Nat) (hj : L[j]? = some (i, .ref x)) (k : vv_ p l e R s m args below meth c Q X nL L σ (pc + 2) (.ref x :: st)) : vv_ p l e R s m args below meth c Q X nL L σ pc st :=
  fun H locs ls h hP hS => lv_aload (fx_x F) (fx_b F) hd (lv_at h j hj) (k H locs ls h hP hS)
theorem qv_istore_n (F : fx_ p s m args c cc nL own X) {i : Fin 4} {x : Int32} {L' : List (Nat × Value)} (hd : decode cc pc = .ok (.istore_n i, 1)) (hn : (i : Nat) < nL) (hl : ((i : Nat), Value.int x) :: L.filter (fun q => !(q.1 == (i : Nat)) && !(q.1 + 1 == (i : Nat) && q.2.category == 2)) = L') (k : vv_ p l e R s m args below meth c Q X nL L' σ (pc + 1) st) : vv_ p l e R s m args below meth c Q X nL L σ pc (.int x :: st) :=
  fun H locs ls h hP hS => lv_istore_n (fx_x F) (fx_b F) hd rfl h hn hl (fun ls' h' => k H locs ls' h' hP hS)
theorem qv_istore (F : fx_ p s m args c cc nL own X) {i : Nat} {x : Int32} {L' : List (Nat × Value)} (hd : decode cc pc = .ok (.istore i, 2)) (hn : i < nL) (hl : (i, Value.int x) :: L.filter (fun q => !(q.1 == i) && !(q.1 + 1 == i && q.2.category == 2)) = L') (k : vv_ p l e R s m args below meth c Q X nL L' σ (pc + 2) st) : vv_ p l e R s m args below meth c Q X nL L σ pc (.int x :: st) :=
  fun H locs ls h hP hS => lv_istore (fx_x F) (fx_b F) hd h hn hl (fun ls' h' => k H locs ls' h' hP hS)
theorem qv_astore_n (F : fx_ p s m args c cc nL own X) {i : Fin 4} {x : Nat} {L' : List (Nat × Value)} (hd : decode cc pc = .ok (.astore_n i, 1)) (hn : (i : Nat) < nL) (hl : ((i : Nat), Value.ref x) :: L.filter (fun q => !(q.1 == (i : Nat)) && !(q.1 + 1 == (i : Nat) && q.2.category == 2)) = L') (k : vv_ p l e R s m args below meth c Q X nL L' σ (pc + 1) st) : vv_ p l e R s m args below meth c Q X nL L σ pc (.ref x :: st) :=
  fun H locs ls h hP hS => lv_astore_n (fx_x F) (fx_b F) hd rfl h hn hl (fun ls' h' => k H locs ls' h' hP hS)
theorem qv_iinc (F : fx_ p s m args c cc nL own X) {i : Nat} {n : Int} {x : Int32} (v : Int32) {L' : List (Nat × Value)} (hd : decode cc pc = .ok (.iinc i n, 3)) (j : Nat) (hj : L[j]? = some (i, .int x)) (hv : x + Int32.ofInt n = v) (hn : i < nL) (hl : (i, Value.int v) :: L.filter (fun q => !(q.1 == i) && !(q.1 + 1 == i && q.2.category == 2)) = L') (k : vv_ p l e R s m args below meth c Q X nL L' σ (pc + 3) st) : vv_ p l e R s m args below meth c Q X nL L σ pc st :=
  fun H locs ls h hP hS => lv_iinc (fx_x F) (fx_b F) hd h hj hv hn hl (fun ls' h' => k H locs ls' h' hP hS)
theorem qv_goto (F : fx_ p s m args c cc nL own X) {off : Int} {tgt : Nat} (hd : decode cc pc = .ok (.goto off, 3)) (ht : (pc : Int) + off = (tgt : Int)) (k : vv_ p l e R s m args below meth c Q X nL L σ tgt st) : vv_ p l e R s m args below meth c Q X nL L σ pc st :=
  fun H locs ls h hP hS => lv_goto (fx_x F) (fx_b F) hd ht (k H locs ls h hP hS)
theorem qv_dup (F : fx_ p s m args c cc nL own X) {v : Value} (hd : decode cc pc = .ok (.dup, 1)) (hv : v.category = 1) (k : vv_ p l e R s m args below meth c Q X nL L σ (pc + 1) (v :: v :: st)) : vv_ p l e R s m args below meth c Q X nL L σ pc (v :: st) :=
  fun H locs ls h hP hS => lv_dup (fx_x F) (fx_b F) hd hv (k H locs ls h hP hS)
theorem qv_dup2 (F : fx_ p s m args c cc nL own X) {v w : Value} (hd : decode cc pc = .ok (.dup2, 1)) (hv : v.category = 1) (hw : w.category = 1) (k : vv_ p l e R s m args below meth c Q X nL L σ (pc + 1) (v :: w :: v :: w :: st)) : vv_ p l e R s m args below meth c Q X nL L σ pc (v :: w :: st) :=
  fun H locs ls h hP hS => lv_dup2_11 (fx_x F) (fx_b F) hd hv hw (k H locs ls h hP hS)
end CO
/-! numbers -/
theorem nz_or (a b : Nat) : nI a ||| nI b = nI (a ||| b) := by
  apply Int32.toBitVec_inj.1
  show BitVec.ofNat 32 a ||| BitVec.ofNat 32 b = BitVec.ofNat 32 (a ||| b)
  apply BitVec.eq_of_getLsbD_eq
  intro i hi
  simp [hi]
theorem nz_and (a b : Nat) : nI a &&& nI b = nI (a &&& b) := by
  apply Int32.toBitVec_inj.1
  show BitVec.ofNat 32 a &&& BitVec.ofNat 32 b = BitVec.ofNat 32 (a &&& b)
  apply BitVec.eq_of_getLsbD_eq
  intro i hi
  simp [hi]
theorem nz_sl : ∀ n, n < 32 → ((nI n &&& 31).toBitVec.smod 32).toNat = n := by decide +kernel
theorem nz_shl {a k : Nat} (hk : k < 32) (h : a * 2 ^ k < 2 ^ 32) : nI a <<< (nI k &&& 31) = nI (a * 2 ^ k) := pk_shlN _ k (nz_sl k hk) h
theorem nz_shr {a k : Nat} (hk : k < 32) (h : a < 2 ^ 31) : nI a >>> (nI k &&& 31) = nI (a / 2 ^ k) := pk_shrN h _ k (nz_sl k hk)
theorem nz_upd (f : Nat → Nat) {i : Nat} (hi : i < 2 ^ 31) (x : Nat) : upd (fun j => nI (f j)) (nI i).toNatClampNeg (nI x) = fun j => nI (va_up f i x j) := by
  funext j
  rw [nI_clamp hi]
  by_cases h : j = i
  · subst h; simp [upd, va_up]
  · simp [upd, va_up, h]
section CA
variable {p : Program} {l : Launch} {e : Env} {R : Room} {s : State} {m : MethodId} {args : Array Value} {below : List Frame} {meth : Method} {c : Code} {Q : State → Prop}
variable {X : wX} {nL : Nat} {L : List (Nat × Value)} {σ : sg} {pc : Nat} {st : List Value} {cc : ByteArray} {own : String}
theorem qv_iadd (F : fx_ p s m args c cc nL own X) {a b : Nat} (hd : decode cc pc = .ok (.iadd, 1)) (k : vv_ p l e R s m args below meth c Q X nL L σ (pc + 1) (.int (nI (a + b)) :: st)) : vv_ p l e R s m args below meth c Q X nL L σ pc (.int (nI b) :: .int (nI a) :: st) :=
  fun H locs ls h hP hS => lv_iadd (fx_x F) (fx_b F) hd (by rw [nI_add]; exact k H locs ls h hP hS)
theorem qv_iaddI (F : fx_ p s m args c cc nL own X) {a b : Int32} (hd : decode cc pc = .ok (.iadd, 1)) (k : vv_ p l e R s m args below meth c Q X nL L σ (pc + 1) (.int (a + b) :: st)) : vv_ p l e R s m args below meth c Q X nL L σ pc (.int b :: .int a :: st) :=
  fun H locs ls h hP hS => lv_iadd (fx_x F) (fx_b F) hd (k H locs ls h hP hS)
theorem qv_isub (F : fx_ p s m args c cc nL own X) {a b : Nat} (hd : decode cc pc = .ok (.isub, 1)) (hab : b ≤ a) (k : vv_ p l e R s m args below meth c Q X nL L σ (pc + 1) (.int (nI (a - b)) :: st)) : vv_ p l e R s m args below meth c Q X nL L σ pc (.int (nI b) :: .int (nI a) :: st) :=
  fun H locs ls h hP hS => lv_isub (fx_x F) (fx_b F) hd (by rw [pk_sub hab]; exact k H locs ls h hP hS)
theorem qv_isubI (F : fx_ p s m args c cc nL own X) {a b : Int32} (hd : decode cc pc = .ok (.isub, 1)) (k : vv_ p l e R s m args below meth c Q X nL L σ (pc + 1) (.int (a - b) :: st)) : vv_ p l e R s m args below meth c Q X nL L σ pc (.int b :: .int a :: st) :=
  fun H locs ls h hP hS => lv_isub (fx_x F) (fx_b F) hd (k H locs ls h hP hS)
theorem qv_imul (F : fx_ p s m args c cc nL own X) {a b : Nat} (hd : decode cc pc = .ok (.imul, 1)) (k : vv_ p l e R s m args below meth c Q X nL L σ (pc + 1) (.int (nI (a * b)) :: st)) : vv_ p l e R s m args below meth c Q X nL L σ pc (.int (nI b) :: .int (nI a) :: st) :=
  fun H locs ls h hP hS => lv_imul (fx_x F) (fx_b F) hd (by rw [pk_mul]; exact k H locs ls h hP hS)
theorem qv_iand (F : fx_ p s m args c cc nL own X) {a b : Nat} (hd : decode cc pc = .ok (.iand, 1)) (k : vv_ p l e R s m args below meth c Q X nL L σ (pc + 1) (.int (nI (a &&& b)) :: st)) : vv_ p l e R s m args below meth c Q X nL L σ pc (.int (nI b) :: .int (nI a) :: st) :=
  fun H locs ls h hP hS => lv_iand (fx_x F) (fx_b F) hd (by rw [nz_and]; exact k H locs ls h hP hS)
theorem qv_ior (F : fx_ p s m args c cc nL own X) {a b : Nat} (hd : decode cc pc = .ok (.ior, 1)) (k : vv_ p l e R s m args below meth c Q X nL L σ (pc + 1) (.int (nI (a ||| b)) :: st)) : vv_ p l e R s m args below meth c Q X nL L σ pc (.int (nI b) :: .int (nI a) :: st) :=
  fun H locs ls h hP hS => lv_ior (fx_x F) (fx_b F) hd (by rw [nz_or]; exact k H locs ls h hP hS)
theorem qv_idiv (F : fx_ p s m args c cc nL own X) {a b : Nat} (hd : decode cc pc = .ok (.idiv, 1)) (ha : a < 2 ^ 31) (h0 : 0 < b) (hb : b < 2 ^ 31) (k : vv_ p l e R s m args below meth c Q X nL L σ (pc + 1) (.int (nI (a / b)) :: st)) : vv_ p l e R s m args below meth c Q X nL L σ pc (.int (nI b) :: .int (nI a) :: st) :=
  fun H locs ls h hP hS => lv_idiv (fx_x F) (fx_b F) hd (nI_ne0 h0 hb) (by rw [pk_div ha h0 hb]; exact k H locs ls h hP hS)
theorem qv_irem (F : fx_ p s m args c cc nL own X) {a b : Nat} (hd : decode cc pc = .ok (.irem, 1)) (ha : a < 2 ^ 31) (h0 : 0 < b) (hb : b < 2 ^ 31) (k : vv_ p l e R s m args below meth c Q X nL L σ (pc + 1) (.int (nI (a % b)) :: st)) : vv_ p l e R s m args below meth c Q X nL L σ pc (.int (nI b) :: .int (nI a) :: st) :=
  fun H locs ls h hP hS => lv_irem (fx_x F) (fx_b F) hd (nI_ne0 h0 hb) (by rw [pk_rem ha h0 hb]; exact k H locs ls h hP hS)
theorem qv_ishl (F : fx_ p s m args c cc nL own X) {a b : Nat} (hd : decode cc pc = .ok (.ishl, 1)) (hb : b < 32) (ha : a * 2 ^ b < 2 ^ 32) (k : vv_ p l e R s m args below meth c Q X nL L σ (pc + 1) (.int (nI (a * 2 ^ b)) :: st)) : vv_ p l e R s m args below meth c Q X nL L σ pc (.int (nI b) :: .int (nI a) :: st) :=
  fun H locs ls h hP hS => lv_ishl (fx_x F) (fx_b F) hd (by rw [nz_shl hb ha]; exact k H locs ls h hP hS)
theorem qv_ishr (F : fx_ p s m args c cc nL own X) {a b : Nat} (hd : decode cc pc = .ok (.ishr, 1)) (hb : b < 32) (ha : a < 2 ^ 31) (k : vv_ p l e R s m args below meth c Q X nL L σ (pc + 1) (.int (nI (a / 2 ^ b)) :: st)) : vv_ p l e R s m args below meth c Q X nL L σ pc (.int (nI b) :: .int (nI a) :: st) :=
  fun H locs ls h hP hS => lv_ishr (fx_x F) (fx_b F) hd (by rw [nz_shr hb ha]; exact k H locs ls h hP hS)
/-! branches on numbers -/
theorem qv_ifeq (F : fx_ p s m args c cc nL own X) {a : Nat} {off : Int} {tgt : Nat} (hd : decode cc pc = .ok (.ifCond .eq off, 3)) (ht : (pc : Int) + off = (tgt : Int)) (ha : a < 2 ^ 31)
    (kt : a = 0 → vv_ p l e R s m args below meth c Q X nL L σ tgt st) (kf : a ≠ 0 → vv_ p l e R s m args below meth c Q X nL L σ (pc + 3) st) : vv_ p l e R s m args below meth c Q X nL L σ pc (.int (nI a) :: st) :=
  fun H locs ls h hP hS => lv_if_eq (fx_x F) (fx_b F) hd ht (fun q => kt ((nI_eq ha (by decide)).mp (q.trans nI_0.symm)) H locs ls h hP hS) (fun q => kf (fun z => q (by rw [z, nI_0])) H locs ls h hP hS)
theorem qv_ifne (F : fx_ p s m args c cc nL own X) {a : Nat} {off : Int} {tgt : Nat} (hd : decode cc pc = .ok (.ifCond .ne off, 3)) (ht : (pc : Int) + off = (tgt : Int)) (ha : a < 2 ^ 31)
    (kt : a ≠ 0 → vv_ p l e R s m args below meth c Q X nL L σ tgt st) (kf : a = 0 → vv_ p l e R s m args below meth c Q X nL L σ (pc + 3) st) : vv_ p l e R s m args below meth c Q X nL L σ pc (.int (nI a) :: st) :=
  fun H locs ls h hP hS => lv_if_ne (fx_x F) (fx_b F) hd ht (fun q => kt (fun z => q (by rw [z, nI_0])) H locs ls h hP hS) (fun q => kf ((nI_eq ha (by decide)).mp (q.trans nI_0.symm)) H locs ls h hP hS)
theorem qv_ifeqI (F : fx_ p s m args c cc nL own X) {x : Int32} {off : Int} {tgt : Nat} (hd : decode cc pc = .ok (.ifCond .eq off, 3)) (ht : (pc : Int) + off = (tgt : Int))
    (kt : x = 0 → vv_ p l e R s m args below meth c Q X nL L σ tgt st) (kf : ¬ x = 0 → vv_ p l e R s m args below meth c Q X nL L σ (pc + 3) st) : vv_ p l e R s m args below meth c Q X nL L σ pc (.int x :: st) :=
  fun H locs ls h hP hS => lv_if_eq (fx_x F) (fx_b F) hd ht (fun q => kt q H locs ls h hP hS) (fun q => kf q H locs ls h hP hS)
/-- a yes or no that a method answered -/
theorem qv_ifeqB (F : fx_ p s m args c cc nL own X) {b : Bool} {off : Int} {tgt : Nat} (hd : decode cc pc = .ok (.ifCond .eq off, 3)) (ht : (pc : Int) + off = (tgt : Int))
    (kt : b = false → vv_ p l e R s m args below meth c Q X nL L σ tgt st) (kf : b = true → vv_ p l e R s m args below meth c Q X nL L σ (pc + 3) st) : vv_ p l e R s m args below meth c Q X nL L σ pc (.int (nI b.toNat) :: st) :=
  qv_ifeq F hd ht (by cases b <;> decide) (fun q => kt (by cases b; rfl; cases q)) (fun q => kf (by cases b; exact absurd rfl q; rfl))
theorem qv_ifneB (F : fx_ p s m args c cc nL own X) {b : Bool} {off : Int} {tgt : Nat} (hd : decode cc pc = .ok (.ifCond .ne off, 3)) (ht : (pc : Int) + off = (tgt : Int))
    (kt : b = true → vv_ p l e R s m args below meth c Q X nL L σ tgt st) (kf : b = false → vv_ p l e R s m args below meth c Q X nL L σ (pc + 3) st) : vv_ p l e R s m args below meth c Q X nL L σ pc (.int (nI b.toNat) :: st) :=
  qv_ifne F hd ht (by cases b <;> decide) (fun q => kt (by cases b; exact absurd rfl q; rfl)) (fun q => kf (by cases b; rfl; cases q))
theorem qv_icmpge (F : fx_ p s m args c cc nL own X) {a b : Nat} {off : Int} {tgt : Nat} (hd : decode cc pc = .ok (.if_icmp .ge off, 3)) (ht : (pc : Int) + off = (tgt : Int)) (ha : a < 2 ^ 31) (hb : b < 2 ^ 31)
    (kt : b ≤ a → vv_ p l e R s m args below meth c Q X nL L σ tgt st) (kf : a < b → vv_ p l e R s m args below meth c Q X nL L σ (pc + 3) st) : vv_ p l e R s m args below meth c Q X nL L σ pc (.int (nI b) :: .int (nI a) :: st) :=
  fun H locs ls h hP hS => lv_icmp_ge (fx_x F) (fx_b F) hd ht (fun q => kt ((nI_leI hb ha).mp q) H locs ls h hP hS) (fun q => kf (Nat.not_le.mp fun z => q ((nI_leI hb ha).mpr z)) H locs ls h hP hS)
theorem qv_icmplt (F : fx_ p s m args c cc nL own X) {a b : Nat} {off : Int} {tgt : Nat} (hd : decode cc pc = .ok (.if_icmp .lt off, 3)) (ht : (pc : Int) + off = (tgt : Int)) (ha : a < 2 ^ 31) (hb : b < 2 ^ 31)
    (kt : a < b → vv_ p l e R s m args below meth c Q X nL L σ tgt st) (kf : b ≤ a → vv_ p l e R s m args below meth c Q X nL L σ (pc + 3) st) : vv_ p l e R s m args below meth c Q X nL L σ pc (.int (nI b) :: .int (nI a) :: st) :=
  fun H locs ls h hP hS => lv_icmp_lt (fx_x F) (fx_b F) hd ht (fun q => kt ((nI_ltI ha hb).mp q) H locs ls h hP hS) (fun q => kf (Nat.not_lt.mp fun z => q ((nI_ltI ha hb).mpr z)) H locs ls h hP hS)
theorem qv_icmple (F : fx_ p s m args c cc nL own X) {a b : Nat} {off : Int} {tgt : Nat} (hd : decode cc pc = .ok (.if_icmp .le off, 3)) (ht : (pc : Int) + off = (tgt : Int)) (ha : a < 2 ^ 31) (hb : b < 2 ^ 31)
    (kt : a ≤ b → vv_ p l e R s m args below meth c Q X nL L σ tgt st) (kf : b < a → vv_ p l e R s m args below meth c Q X nL L σ (pc + 3) st) : vv_ p l e R s m args below meth c Q X nL L σ pc (.int (nI b) :: .int (nI a) :: st) :=
  fun H locs ls h hP hS => lv_icmp_le (fx_x F) (fx_b F) hd ht (fun q => kt ((nI_leI ha hb).mp q) H locs ls h hP hS) (fun q => kf (Nat.not_le.mp fun z => q ((nI_leI ha hb).mpr z)) H locs ls h hP hS)
theorem qv_icmpgt (F : fx_ p s m args c cc nL own X) {a b : Nat} {off : Int} {tgt : Nat} (hd : decode cc pc = .ok (.if_icmp .gt off, 3)) (ht : (pc : Int) + off = (tgt : Int)) (ha : a < 2 ^ 31) (hb : b < 2 ^ 31)
    (kt : b < a → vv_ p l e R s m args below meth c Q X nL L σ tgt st) (kf : a ≤ b → vv_ p l e R s m args below meth c Q X nL L σ (pc + 3) st) : vv_ p l e R s m args below meth c Q X nL L σ pc (.int (nI b) :: .int (nI a) :: st) :=
  fun H locs ls h hP hS => lv_icmp_gt (fx_x F) (fx_b F) hd ht (fun q => kt ((nI_ltI hb ha).mp q) H locs ls h hP hS) (fun q => kf (Nat.not_lt.mp fun z => q ((nI_ltI hb ha).mpr z)) H locs ls h hP hS)
theorem qv_icmpeq (F : fx_ p s m args c cc nL own X) {a b : Nat} {off : Int} {tgt : Nat} (hd : decode cc pc = .ok (.if_icmp .eq off, 3)) (ht : (pc : Int) + off = (tgt : Int)) (ha : a < 2 ^ 31) (hb : b < 2 ^ 31)
    (kt : a = b → vv_ p l e R s m args below meth c Q X nL L σ tgt st) (kf : a ≠ b → vv_ p l e R s m args below meth c Q X nL L σ (pc + 3) st) : vv_ p l e R s m args below meth c Q X nL L σ pc (.int (nI b) :: .int (nI a) :: st) :=
  fun H locs ls h hP hS => lv_icmp_eq (fx_x F) (fx_b F) hd ht (fun q => kt ((nI_eq ha hb).mp q) H locs ls h hP hS) (fun q => kf (fun z => q (by rw [z])) H locs ls h hP hS)
theorem qv_icmpne (F : fx_ p s m args c cc nL own X) {a b : Nat} {off : Int} {tgt : Nat} (hd : decode cc pc = .ok (.if_icmp .ne off, 3)) (ht : (pc : Int) + off = (tgt : Int)) (ha : a < 2 ^ 31) (hb : b < 2 ^ 31)
    (kt : a ≠ b → vv_ p l e R s m args below meth c Q X nL L σ tgt st) (kf : a = b → vv_ p l e R s m args below meth c Q X nL L σ (pc + 3) st) : vv_ p l e R s m args below meth c Q X nL L σ pc (.int (nI b) :: .int (nI a) :: st) :=
  fun H locs ls h hP hS => lv_icmp_ne (fx_x F) (fx_b F) hd ht (fun q => kt (fun z => q (by rw [z])) H locs ls h hP hS) (fun q => kf ((nI_eq ha hb).mp q) H locs ls h hP hS)
theorem qv_iflt (F : fx_ p s m args c cc nL own X) {x : Int32} {off : Int} {tgt : Nat} (hd : decode cc pc = .ok (.ifCond .lt off, 3)) (ht : (pc : Int) + off = (tgt : Int))
    (kt : x < 0 → vv_ p l e R s m args below meth c Q X nL L σ tgt st) (kf : ¬ x < 0 → vv_ p l e R s m args below meth c Q X nL L σ (pc + 3) st) : vv_ p l e R s m args below meth c Q X nL L σ pc (.int x :: st) :=
  fun H locs ls h hP hS => lv_if_lt (fx_x F) (fx_b F) hd ht (fun q => kt q H locs ls h hP hS) (fun q => kf q H locs ls h hP hS)
theorem qv_ifle (F : fx_ p s m args c cc nL own X) {a : Nat} {off : Int} {tgt : Nat} (hd : decode cc pc = .ok (.ifCond .le off, 3)) (ht : (pc : Int) + off = (tgt : Int)) (ha : a < 2 ^ 31)
    (kt : a = 0 → vv_ p l e R s m args below meth c Q X nL L σ tgt st) (kf : 0 < a → vv_ p l e R s m args below meth c Q X nL L σ (pc + 3) st) : vv_ p l e R s m args below meth c Q X nL L σ pc (.int (nI a) :: st) :=
  fun H locs ls h hP hS => lv_if_le (fx_x F) (fx_b F) hd ht (fun q => kt (Nat.le_zero.mp ((nI_leI ha (by decide)).mp (by rw [nI_0]; exact q))) H locs ls h hP hS) (fun q => kf (Nat.pos_of_ne_zero fun z => q (by rw [z, nI_0]; decide)) H locs ls h hP hS)
theorem qv_icmpgeI (F : fx_ p s m args c cc nL own X) {x y : Int32} {off : Int} {tgt : Nat} (hd : decode cc pc = .ok (.if_icmp .ge off, 3)) (ht : (pc : Int) + off = (tgt : Int))
    (kt : y ≤ x → vv_ p l e R s m args below meth c Q X nL L σ tgt st) (kf : ¬ y ≤ x → vv_ p l e R s m args below meth c Q X nL L σ (pc + 3) st) : vv_ p l e R s m args below meth c Q X nL L σ pc (.int y :: .int x :: st) :=
  fun H locs ls h hP hS => lv_icmp_ge (fx_x F) (fx_b F) hd ht (fun q => kt q H locs ls h hP hS) (fun q => kf q H locs ls h hP hS)
theorem qv_icmpgtI (F : fx_ p s m args c cc nL own X) {x y : Int32} {off : Int} {tgt : Nat} (hd : decode cc pc = .ok (.if_icmp .gt off, 3)) (ht : (pc : Int) + off = (tgt : Int))
    (kt : y < x → vv_ p l e R s m args below meth c Q X nL L σ tgt st) (kf : ¬ y < x → vv_ p l e R s m args below meth c Q X nL L σ (pc + 3) st) : vv_ p l e R s m args below meth c Q X nL L σ pc (.int y :: .int x :: st) :=
  fun H locs ls h hP hS => lv_icmp_gt (fx_x F) (fx_b F) hd ht (fun q => kt q H locs ls h hP hS) (fun q => kf q H locs ls h hP hS)
/-! cells: arrays -/
theorem qv_iald (F : fx_ p s m args c cc nL own X) (q : Nat) {n i : Nat} (hq : dz_[q]? = some (.inl (false, n))) (hi : i < n) (hn : n < 2 ^ 31) (hd : decode cc pc = .ok (.iaload, 1)) (k : vv_ p l e R s m args below meth c Q X nL L σ (pc + 1) (.int (nI (σ q i)) :: st)) : vv_ p l e R s m args below meth c Q X nL L σ pc (.int (nI i) :: .ref (adr X q) :: st) := by
  intro H locs ls h hP hS
  refine va_iald (fx_x F) (fx_b F) F.2.1 hP q 0 (wd_at hq) rfl (vp_in_nI hi hn) hd ?_
  rw [nI_clamp (by omega)]
  exact k H locs ls h hP hS
theorem qv_zald (F : fx_ p s m args c cc nL own X) (q : Nat) {n i : Nat} (hq : dz_[q]? = some (.inl (true, n))) (hi : i < n) (hn : n < 2 ^ 31) (hd : decode cc pc = .ok (.baload, 1)) (k : vv_ p l e R s m args below meth c Q X nL L σ (pc + 1) (.int (nI (σ q i)) :: st)) : vv_ p l e R s m args below meth c Q X nL L σ pc (.int (nI i) :: .ref (adr X q) :: st) := by
  intro H locs ls h hP hS
  refine va_zald (fx_x F) (fx_b F) F.2.1 hP q 1 (wd_at hq) rfl (vp_in_nI hi hn) hd ?_
  rw [nI_clamp (by omega)]
  exact k H locs ls h hP hS
theorem qv_iast (F : fx_ p s m args c cc nL own X) (q : Nat) {n i x : Nat} (hq : dz_[q]? = some (.inl (false, n))) (hi : i < n) (hn : n < 2 ^ 31) (hd : decode cc pc = .ok (.iastore, 1)) (k : vv_ p l e R s m args below meth c Q X nL L (us σ q i x) (pc + 1) st) : vv_ p l e R s m args below meth c Q X nL L σ pc (.int (nI x) :: .int (nI i) :: .ref (adr X q) :: st) := by
  intro H locs ls h hP hS
  refine va_iast (fx_x F) (fx_b F) F.2.1 hP (wd_D F.2.2.1) hS q 0 (wd_at hq) rfl (vp_in_nI hi hn) hd (fun H1 locs1 hP1 _ hS1 => ?_)
  rw [nz_upd _ (by omega)] at hP1
  exact k H1 locs1 ls h (wd_set (g := va_up (σ q) i x) hq ▸ hP1) hS1
theorem nz_nar {x : Nat} (hx : x = 0 ∨ x = 1) : vp_nar .boolean (nI x) = nI x := by rcases hx with rfl | rfl <;> decide
theorem qv_zast (F : fx_ p s m args c cc nL own X) (q : Nat) {n i x : Nat} (hq : dz_[q]? = some (.inl (true, n))) (hi : i < n) (hn : n < 2 ^ 31) (hx : x = 0 ∨ x = 1) (hd : decode cc pc = .ok (.bastore, 1)) (k : vv_ p l e R s m args below meth c Q X nL L (us σ q i x) (pc + 1) st) : vv_ p l e R s m args below meth c Q X nL L σ pc (.int (nI x) :: .int (nI i) :: .ref (adr X q) :: st) := by
  intro H locs ls h hP hS
  refine va_zast (fx_x F) (fx_b F) F.2.1 hP (wd_D F.2.2.1) hS q 1 (wd_at hq) rfl (vp_in_nI hi hn) hd (fun H1 locs1 hP1 _ hS1 => ?_)
  rw [nz_nar hx, nz_upd _ (by omega)] at hP1
  exact k H1 locs1 ls h (wd_set (g := va_up (σ q) i x) hq ▸ hP1) hS1
theorem qv_alen (F : fx_ p s m args c cc nL own X) (q : Nat) {n : Nat} (hq : dz_[q]? = some (.inl (false, n))) (hd : decode cc pc = .ok (.arraylength, 1)) (k : vv_ p l e R s m args below meth c Q X nL L σ (pc + 1) (.int (nI n) :: st)) : vv_ p l e R s m args below meth c Q X nL L σ pc (.ref (adr X q) :: st) :=
  fun H locs ls h hP hS => va_alen (fx_x F) (fx_b F) F.2.1 hP q 0 (wd_at hq) rfl rfl hd (k H locs ls h hP hS)
/-! cells: fields -/
theorem qv_getr (F : fx_ p s m args c cc nL own X) {index : Nat} {ref C : String} {T : u_T} {N ci : Nat} (hin : ∀ w ∈ u_ws C T N, w ∈ ak_) (q : Nat) {fs : List (Bool × Nat)} (hq : dz_[q]? = some (.inr (ci, fs))) (hc : cl_[ci]? = some (C, T, N)) (j : Nat) (hj : j < N) (hlink : (Cond.fieldLink own index ref (T j).2.1 (T j).2.2.1) ∈ ak_) (href : (T j).1 = ref) {r : Nat} (hv : fs[j]? = some (true, r)) (hd : decode cc pc = .ok (.getfield index, 3)) (k : vv_ p l e R s m args below meth c Q X nL L σ (pc + 3) (.ref (adr X r) :: st)) : vv_ p l e R s m args below meth c Q X nL L σ pc (.ref (adr X q) :: st) := by
  intro H locs ls h hP hS
  subst href
  exact va_get (v := .ref (adr X r)) (fx_x F) (fx_b F) F.1.2.2.2.2 hin F.1.2.2.2.1 F.2.1 hP q (wd_at hq) hc j hj (fx_t F hlink) (fun _ h => h) (by rw [List.getElem?_map, hv]; rfl) hd (k H locs ls h hP hS)
theorem qv_geti (F : fx_ p s m args c cc nL own X) {index : Nat} {ref C : String} {T : u_T} {N ci : Nat} (hin : ∀ w ∈ u_ws C T N, w ∈ ak_) (q : Nat) {fs : List (Bool × Nat)} (hq : dz_[q]? = some (.inr (ci, fs))) (hc : cl_[ci]? = some (C, T, N)) (j : Nat) (hj : j < N) (hlink : (Cond.fieldLink own index ref (T j).2.1 (T j).2.2.1) ∈ ak_) (href : (T j).1 = ref) {r : Nat} (hv : fs[j]? = some (false, r)) (hd : decode cc pc = .ok (.getfield index, 3)) (k : vv_ p l e R s m args below meth c Q X nL L σ (pc + 3) (.int (nI (σ q r)) :: st)) : vv_ p l e R s m args below meth c Q X nL L σ pc (.ref (adr X q) :: st) := by
  intro H locs ls h hP hS
  subst href
  exact va_get (v := .int (nI (σ q r))) (fx_x F) (fx_b F) F.1.2.2.2.2 hin F.1.2.2.2.1 F.2.1 hP q (wd_at hq) hc j hj (fx_t F hlink) (fun _ h => h) (by rw [List.getElem?_map, hv]; rfl) hd (k H locs ls h hP hS)
theorem qv_getrN (F : fx_ p s m args c cc nL own X) {index : Nat} {ref C host : String} {T : u_T} {N ci : Nat} (hin : ∀ w ∈ u_ws C T N, w ∈ ak_) (q : Nat) {fs : List (Bool × Nat)} (hq : dz_[q]? = some (.inr (ci, fs))) (hc : cl_[ci]? = some (C, T, N)) (j : Nat) (hj : j < N) (hlink : (Cond.fieldLinkNest own index ref (T j).2.1 (T j).2.2.1 host) ∈ nw_) (href : (T j).1 = ref) {r : Nat} (hv : fs[j]? = some (true, r)) (hd : decode cc pc = .ok (.getfield index, 3)) (k : vv_ p l e R s m args below meth c Q X nL L σ (pc + 3) (.ref (adr X r) :: st)) : vv_ p l e R s m args below meth c Q X nL L σ pc (.ref (adr X q) :: st) := by
  intro H locs ls h hP hS
  subst href
  exact va_getN (v := .ref (adr X r)) (fx_x F) (fx_b F) F.1.2.2.2.2 hin F.1.2.2.2.1 F.2.1 hP q (wd_at hq) hc j hj (fx_n F hlink) (fun _ h => h) (by rw [List.getElem?_map, hv]; rfl) hd (k H locs ls h hP hS)
theorem qv_getiN (F : fx_ p s m args c cc nL own X) {index : Nat} {ref C host : String} {T : u_T} {N ci : Nat} (hin : ∀ w ∈ u_ws C T N, w ∈ ak_) (q : Nat) {fs : List (Bool × Nat)} (hq : dz_[q]? = some (.inr (ci, fs))) (hc : cl_[ci]? = some (C, T, N)) (j : Nat) (hj : j < N) (hlink : (Cond.fieldLinkNest own index ref (T j).2.1 (T j).2.2.1 host) ∈ nw_) (href : (T j).1 = ref) {r : Nat} (hv : fs[j]? = some (false, r)) (hd : decode cc pc = .ok (.getfield index, 3)) (k : vv_ p l e R s m args below meth c Q X nL L σ (pc + 3) (.int (nI (σ q r)) :: st)) : vv_ p l e R s m args below meth c Q X nL L σ pc (.ref (adr X q) :: st) := by
  intro H locs ls h hP hS
  subst href
  exact va_getN (v := .int (nI (σ q r))) (fx_x F) (fx_b F) F.1.2.2.2.2 hin F.1.2.2.2.1 F.2.1 hP q (wd_at hq) hc j hj (fx_n F hlink) (fun _ h => h) (by rw [List.getElem?_map, hv]; rfl) hd (k H locs ls h hP hS)
end CA
theorem ii_1 (a : Nat) : nI a + Int32.ofInt 1 = nI (a + 1) := by rw [show Int32.ofInt 1 = nI 1 by decide, nI_add]
theorem bz_01 (b : Bool) : nI b.toNat = 0 ∨ nI b.toNat = 1 := by cases b <;> decide
/-- an answer, and the cells behind it -/
def ei_ (z : Int32) (τ : sg) : Option Value → sg → Prop := fun r τ' => r = some (.int z) ∧ τ' = τ
def ev_ (τ : sg) : Option Value → sg → Prop := fun r τ' => r = none ∧ τ' = τ
theorem ei_mk (z : Int32) (τ : sg) : ei_ z τ (some (.int z)) τ := ⟨rfl, rfl⟩
theorem ei_of {z z' : Int32} {τ τ' : sg} (h : z = z') (h2 : τ = τ') : ei_ z' τ' (some (.int z)) τ := ⟨by rw [h], h2⟩
theorem ev_of {τ τ' : sg} (h2 : τ = τ') : ev_ τ' none τ := ⟨rfl, h2⟩
/-! ints that lie within -/
def wi_ (x : Int32) (n : Nat) : Bool := decide (0 ≤ x.toInt ∧ x.toInt < n)
def tn_ (x : Int32) : Nat := x.toNatClampNeg
theorem tn_nI {j : Nat} (h : j < 2 ^ 31) : tn_ (nI j) = j := nI_clamp h
theorem wi_neg {x : Int32} {n : Nat} (h : x < 0) : wi_ x n = false := by
  have h1 : x.toInt < (0 : Int32).toInt := Int32.lt_iff_toInt_lt.mp h
  have h2 : (0 : Int32).toInt = 0 := by decide
  unfold wi_
  rw [decide_eq_false_iff_not]
  omega
theorem wi_ge {x : Int32} {n : Nat} (hn : n < 2 ^ 31) (h : nI n ≤ x) : wi_ x n = false := by
  have h1 : (nI n).toInt ≤ x.toInt := Int32.le_iff_toInt_le.mp h
  rw [nI_toInt hn] at h1
  unfold wi_
  rw [decide_eq_false_iff_not]
  omega
theorem wi_in {x : Int32} {n : Nat} (hn : n < 2 ^ 31) (h0 : ¬ x < 0) (h : ¬ nI n ≤ x) : wi_ x n = true := by
  have h1 : ¬ (nI n).toInt ≤ x.toInt := fun q => h (Int32.le_iff_toInt_le.mpr q)
  have h2 : ¬ x.toInt < (0 : Int32).toInt := fun q => h0 (Int32.lt_iff_toInt_lt.mpr q)
  have h3 : (0 : Int32).toInt = 0 := by decide
  rw [nI_toInt hn] at h1
  unfold wi_
  rw [decide_eq_true_eq]
  omega
theorem wi_t {x : Int32} {n : Nat} (hn : n < 2 ^ 31) (h : wi_ x n = true) : ∃ j : Nat, j < n ∧ x = nI j := by
  unfold wi_ at h
  rw [decide_eq_true_eq] at h
  exact vp_in_of (vp_in_iff.mpr h) hn
theorem wi_nI {j n : Nat} (hj : j < 2 ^ 31) : wi_ (nI j) n = decide (j < n) := by
  unfold wi_
  rw [nI_toInt hj]
  congr 1
  apply propext
  omega
theorem wi_y {j n : Nat} (hn : n < 2 ^ 31) (h : j < n) : wi_ (nI j) n = true := by
  rw [wi_nI (by omega)]
  exact decide_eq_true h
theorem bt_and (a b : Nat) : (a / 2 ^ b &&& 1) = (a.testBit b).toNat := by
  rw [Nat.and_one_is_mod, Nat.testBit_eq_decide_div_mod_eq]
  by_cases h : a / 2 ^ b % 2 = 1
  · rw [decide_eq_true h]; exact h
  · rw [decide_eq_false h]
    show a / 2 ^ b % 2 = 0
    omega
def fo_ (fs : List (Bool × Nat)) : Bool := (List.range fs.length).all (fun k => (fs[k]?).all (fun q => q.1 || q.2 == k))
theorem cf_set {X : wX} {g : Nat → Nat} {fs : List (Bool × Nat)} {j x : Nat} (hfs : fo_ fs = true) (hj : fs[j]? = some (false, j)) : (fs.map (cf_ X g)).set j (.int (nI x)) = fs.map (cf_ X (va_up g j x)) := by
  apply List.ext_getElem?
  intro i
  by_cases hi : j = i
  · subst hi
    rw [List.getElem?_set_self (by rw [List.length_map]; exact (List.getElem?_eq_some_iff.mp hj).1), List.getElem?_map, hj]
    simp [cf_, up_eq]
  · rw [List.getElem?_set_ne hi, List.getElem?_map, List.getElem?_map]
    cases hf : fs[i]? with
    | none => rfl
    | some q =>
      obtain ⟨b, r⟩ := q
      have h1 := List.all_eq_true.mp hfs i (List.mem_range.mpr (List.getElem?_eq_some_iff.mp hf).1)
      rw [hf] at h1
      cases b with
      | true => rfl
      | false =>
        have h2 : r = i := by simpa using h1
        subst h2
        simp [cf_, up_ne (fun z : r = j => hi z.symm)]
theorem ce_set {X : wX} {σ : sg} {q ci : Nat} {fs : List (Bool × Nat)} {j x : Nat} (hq : dz_[q]? = some (.inr (ci, fs))) (hfs : fo_ fs = true) (hj : fs[j]? = some (false, j)) : (wd_ X σ).set q (adr X q, .inr (ci, (fs.map (cf_ X (σ q))).set j (.int (nI x)))) = wd_ X (us σ q j x) := by
  rw [cf_set hfs hj]
  exact wd_set (X := X) (σ := σ) (k := q) (d := .inr (ci, fs)) (g := va_up (σ q) j x) hq
section CB
variable {p : Program} {l : Launch} {e : Env} {R : Room} {s : State} {m : MethodId} {args : Array Value} {below : List Frame} {meth : Method} {c : Code} {Q : State → Prop}
variable {X : wX} {nL : Nat} {L : List (Nat × Value)} {σ : sg} {pc : Nat} {st : List Value} {cc : ByteArray} {own : String}
theorem qv_put (F : fx_ p s m args c cc nL own X) {index : Nat} {ref C : String} {T : u_T} {N ci : Nat} (hin : ∀ w ∈ u_ws C T N, w ∈ ak_) (ty0 : Nat → FieldType) (hty : ∀ k, k < N → parseFieldDescriptor (T k).2.2.1 = some (ty0 k)) (hnm : ∀ a, a < N → ∀ b, b < N → a ≠ b → (T a).2.1 ≠ (T b).2.1) (q : Nat) {fs : List (Bool × Nat)} (hq : dz_[q]? = some (.inr (ci, fs))) (hfs : fo_ fs = true) (hc : cl_[ci]? = some (C, T, N)) (j : Nat) (hj : j < N) (hlink : (Cond.fieldLink own index ref (T j).2.1 (T j).2.2.1) ∈ ak_) (href : (T j).1 = ref) (hfin : (T j).2.2.2 = false) {ty : FieldType} (hdd : parseFieldDescriptor (T j).2.2.1 = some ty) (hv : fs[j]? = some (false, j)) {x : Nat} (hn : narrow ty (.int (nI x)) = .int (nI x)) (hfit : fits ty (.int (nI x)) = true) (hd : decode cc pc = .ok (.putfield index, 3)) (k : vv_ p l e R s m args below meth c Q X nL L (us σ q j x) (pc + 3) st) : vv_ p l e R s m args below meth c Q X nL L σ pc (.int (nI x) :: .ref (adr X q) :: st) := by
  intro H locs ls h hP hS
  subst href
  refine va_put (v := .int (nI x)) (ty := ty) (fx_x F) (fx_b F) F.1.2.2.2.2 hin ty0 hty hnm F.1.2.2.2.1 F.2.1 hP (wd_D F.2.2.1) hS q (wd_at hq) hc j hj (fx_t F hlink) (fun _ h => h) hfin hdd hn hfit (by rw [List.length_map]; exact (List.getElem?_eq_some_iff.mp hv).1) hd (fun H1 locs1 hP1 _ hS1 => ?_)
  exact k H1 locs1 ls h (ce_set hq hfs hv ▸ hP1) hS1
/-! calls -/
theorem qv_run {st0 rest : List Value} {P : Option Value → sg → Prop} {a : Array Value} (hr : ∀ (H : Heap) (locs : List Loc) (ls : Array Slot), ls.size = nL → va_P X.1 cl_ (wd_ X σ) H → va_S (aw_ X) s.heap H locs → va_Run p l e R s m args below meth c H locs 0 0 0 0 (F0 m pc ls st0) rest (mq_ X P a) (aw_ X))
    (k : ∀ (r : Option Value) (τ : sg), P r τ → vv_ p l e R s m args below meth c Q X nL L τ (pc + 3) (r.toList ++ rest)) : vv_ p l e R s m args below meth c Q X nL L σ pc st0 := by
  intro H locs ls hl hP hS T hT Xs
  obtain ⟨v, st₀, t, T', L', h0, X', hL, e1, e2, ⟨⟨r, τ, hv, hp, hb⟩, hz, hk⟩, stp⟩ := hr H locs ls hl.1 hP hS T hT Xs
  cases hv
  rw [h0] at hz hk
  obtain ⟨t2, a1, b1⟩ := k v τ hp T'.heap (locs ++ L') ls hl (by rw [e1]; exact hb)
    ⟨Nat.le_trans hS.1 (by rw [e1]; exact hz), fun q h1 h2 => by rw [e1, hk q (Nat.lt_of_lt_of_le h1 hS.1) h2]; exact hS.2.1 q h1 h2, fun q hq => by
      rcases List.mem_append.mp hq with h | h
      · exact hS.2.2 q h
      · exact hL q h⟩ T' rfl X'
  exact ⟨t2, stp t2 a1, b1⟩
theorem mt_blind {as : List Value} : FrameBlind (va_Pc as (fun U => fz_ X U U.heap ∧ va_P X.1 cl_ (wd_ X σ) U.heap)) := by
  intro a U g mk q
  obtain ⟨q0, q1, q2⟩ := q
  exact ⟨q0, fz_same (U := U.calling g mk a) q1 rfl, q2⟩
theorem mt_preS (F : fx_ p s m args c cc nL own X) {as : List Value} {H : Heap} {locs : List Loc} (hP : va_P X.1 cl_ (wd_ X σ) H) (hS : va_S (aw_ X) s.heap H locs) : PreS s H (va_Pc as (fun U => fz_ X U U.heap ∧ va_P X.1 cl_ (wd_ X σ) U.heap)) as :=
  ⟨mt_blind, fun U hU hW => ⟨rfl, by rw [hU]; exact fz_moved F.2 hW hS, by rw [hU]; exact hP⟩⟩
theorem ak_good (y : MethodName) (b : ByteArray) (n : Nat) (r : Option FieldType) (h : Cond.code y b n r ∈ ak_) : GoodIn ak_ (wz_ y b n r) := by
  intro w hw
  rcases List.mem_cons.mp hw with h1 | h1
  · subst h1; exact ⟨h, ak_ok _ h⟩
  · exact ⟨h1, ak_ok _ h1⟩
theorem qv_callS (F : fx_ p s m args c cc nL own X) {y : MethodName} {bytes : ByteArray} {maxL index d n : Nat} {ret : Option FieldType} {as rest : List Value} {P : Option Value → sg → Prop} (hcode : Cond.code y bytes maxL ret ∈ ak_) (hl : Cond.methodLink own index y ∈ ak_) (hst : Cond.static y ∈ ak_) (hini : Cond.initialized y.cls ∈ ak_)
    (hy : y.cls ≠ "java/lang/invoke/MethodHandle" ∧ y.cls ≠ "java/lang/invoke/VarHandle" ∧ (parseMethodDescriptor y.desc).map (fun d => d.parameters.length) = some n) (hM : mt_ l X y (wz_ y bytes maxL ret) d as σ P) (hn : as.length = n) (hR : d + 1 ≤ R.frames ∧ 8 + (maxL + 11) + 30 * d ≤ R.locals) (hw : (rest.map fun v => v.category).sum ≤ 8) (hd : decode cc pc = .ok (.invokestatic index, 3))
    (k : ∀ (r : Option Value) (τ : sg), P r τ → vv_ p l e R s m args below meth c Q X nL L τ (pc + 3) (r.toList ++ rest)) : vv_ p l e R s m args below meth c Q X nL L σ pc (as.reverse ++ rest) :=
  qv_run (a := as.toArray) (fun H locs ls hsz hP hS => va_runS (nL := nL) (n := n) (maxL := maxL) (ret := ret) (bytes := bytes) (ws := wz_ y bytes maxL ret) F.1 hM ⟨callB_of n F.1.2.2.2.2 (ak_good y bytes maxL ret hcode) rfl rfl rfl (fx_t F hini) (fx_t F hl) hy hR, fx_t F hst⟩ (mt_preS F hP hS) rfl hn hsz rfl (lv_room hw) hd ⟨Nat.zero_le _, Nat.zero_le _⟩) k
theorem qv_callSN (F : fx_ p s m args c cc nL own X) {y : MethodName} {host : String} {bytes : ByteArray} {maxL index d n : Nat} {ret : Option FieldType} {as rest : List Value} {P : Option Value → sg → Prop} (hcode : Cond.code y bytes maxL ret ∈ ak_) (hl : Cond.methodLinkNest own index y host ∈ nw_) (hst : Cond.static y ∈ ak_) (hini : Cond.initialized y.cls ∈ ak_)
    (hy : y.cls ≠ "java/lang/invoke/MethodHandle" ∧ y.cls ≠ "java/lang/invoke/VarHandle" ∧ (parseMethodDescriptor y.desc).map (fun d => d.parameters.length) = some n) (hM : mt_ l X y (wz_ y bytes maxL ret) d as σ P) (hn : as.length = n) (hR : d + 1 ≤ R.frames ∧ 8 + (maxL + 11) + 30 * d ≤ R.locals) (hw : (rest.map fun v => v.category).sum ≤ 8) (hd : decode cc pc = .ok (.invokestatic index, 3))
    (k : ∀ (r : Option Value) (τ : sg), P r τ → vv_ p l e R s m args below meth c Q X nL L τ (pc + 3) (r.toList ++ rest)) : vv_ p l e R s m args below meth c Q X nL L σ pc (as.reverse ++ rest) :=
  qv_run (a := as.toArray) (fun H locs ls hsz hP hS => va_runSN (nL := nL) (n := n) (maxL := maxL) (ret := ret) (bytes := bytes) (host := host) (ws := wz_ y bytes maxL ret) F.1 hM ⟨va_cnB n F.1.2.2.2.2 (ak_good y bytes maxL ret hcode) rfl rfl rfl (F.2.2.2.1 _ hl) (fx_t F hini) hy hR, fx_t F hst, trivial⟩ (mt_preS F hP hS) rfl hn hsz rfl (lv_room hw) hd ⟨Nat.zero_le _, Nat.zero_le _⟩) k
theorem qv_callV (F : fx_ p s m args c cc nL own X) {y : MethodName} {bytes : ByteArray} {maxL index d n : Nat} {ret : Option FieldType} {as rest : List Value} {P : Option Value → sg → Prop} (q : Nat) {ci N : Nat} {T : u_T} {fs : List (Bool × Nat)} (hq : dz_[q]? = some (.inr (ci, fs))) (hc : cl_[ci]? = some (y.cls, T, N)) (hcode : Cond.code y bytes maxL ret ∈ ak_) (hl : Cond.methodLink own index y ∈ ak_) (hin : Cond.instanceMethod y ∈ ak_) (hse : Cond.selects y.cls y y ∈ ak_) (hini : Cond.initialized y.cls ∈ ak_)
    (hy : y.cls ≠ "java/lang/invoke/MethodHandle" ∧ y.cls ≠ "java/lang/invoke/VarHandle" ∧ (parseMethodDescriptor y.desc).map (fun d => d.parameters.length) = some n) (hM : mt_ l X y (wz_ y bytes maxL ret) d (.ref (adr X q) :: as) σ P) (hn : as.length = n) (hR : d + 1 ≤ R.frames ∧ 8 + (maxL + 11) + 30 * d ≤ R.locals) (hw : (rest.map fun v => v.category).sum ≤ 8) (hd : decode cc pc = .ok (.invokevirtual index, 3))
    (k : ∀ (r : Option Value) (τ : sg), P r τ → vv_ p l e R s m args below meth c Q X nL L τ (pc + 3) (r.toList ++ rest)) : vv_ p l e R s m args below meth c Q X nL L σ pc (as.reverse ++ .ref (adr X q) :: rest) :=
  qv_run (a := (Value.ref (adr X q) :: as).toArray) (fun H locs ls hsz hP hS => va_runV (nL := nL) (n := n) (maxL := maxL) (ret := ret) (bytes := bytes) (C := y.cls) (ws := wz_ y bytes maxL ret) F.1 hM ⟨callB_of n F.1.2.2.2.2 (ak_good y bytes maxL ret hcode) rfl rfl rfl (fx_t F hini) (fx_t F hl) hy hR, fx_t F hin, fx_t F hse⟩ ⟨(mt_preS F hP hS (as := .ref (adr X q) :: as)).1, va_recv F.2.1 hP hc (wd_at hq), (mt_preS F hP hS (as := .ref (adr X q) :: as)).2⟩ rfl hn hsz rfl (lv_room hw) hd ⟨Nat.zero_le _, Nat.zero_le _⟩) k
/-! loops -/
theorem lu_up {α : Type} (P : Nat → α → Prop) (I : Nat → α → Prop) (n : Nat) (hx : ∀ a, I n a → P n a) (hs : ∀ i a, i < n → I i a → (∀ b, I (i + 1) b → P (i + 1) b) → P i a) : ∀ i a, i ≤ n → I i a → P i a := by
  intro i a hi hI
  obtain ⟨k, hk⟩ : ∃ k, n = i + k := ⟨n - i, by omega⟩
  induction k generalizing i a with
  | zero => obtain rfl : n = i := hk; exact hx a hI
  | succ k ih => exact hs i a (by omega) hI (fun b hb => ih (i + 1) b (by omega) hb (by omega))
end CB
theorem ua_ua (σ : sg) (a : Nat) (g h : Nat → Nat) : ua (ua σ a g) a h = ua σ a h := by
  funext b
  by_cases e : b = a
  · subst e; rw [ua_eq, ua_eq]
  · rw [ua_ne e, ua_ne e, ua_ne e]
theorem us_ua (σ : sg) (a : Nat) (g : Nat → Nat) (i x : Nat) : us (ua σ a g) a i x = ua σ a (va_up g i x) := by
  unfold us
  rw [ua_ua, ua_eq]
section CX
variable {p : Program} {l : Launch} {e : Env} {R : Room} {s : State} {m : MethodId} {args : Array Value} {below : List Frame} {meth : Method} {c : Code} {Q : State → Prop}
variable {X : wX} {nL : Nat} {L : List (Nat × Value)} {σ : sg} {pc : Nat} {st : List Value}
theorem arr_to (cA : ClassId) {n : Nat} {f g : Nat → Value} (h : ∀ k, k < n → f k = g k) : arrV cA n f = arrV cA n g := by
  unfold arrV
  congr 1
  congr 1
  funext j
  exact h j.val j.isLt
/-- only the places below the length count -/
theorem wd_ext {X : wX} {σ : sg} {q n : Nat} {z : Bool} {g : Nat → Nat} {H : Heap} (hq : dz_[q]? = some (.inl (z, n))) (hg : ∀ k, k < n → g k = σ q k) (hP : va_P X.1 cl_ (wd_ X σ) H) : va_P X.1 cl_ (wd_ X (ua σ q g)) H := by
  intro k w hw
  by_cases e : k = q
  · subst e
    have h1 := hP k _ (wd_at hq)
    have h2 : (wd_ X (ua σ k g))[k]? = some (adr X k, ce_ X (.inl (z, n)) g) := by rw [wd_at hq, ua_eq]
    rw [h2] at hw
    cases hw
    show H[adr X k]? = some (vp_cell (cz_ X z) (n, .inl (fun j => nI (g j))))
    have h3 : H[adr X k]? = some (vp_cell (cz_ X z) (n, .inl (fun j => nI (σ k j)))) := h1
    rw [h3, vp_cell_i, vp_cell_i]
    exact congrArg some (arr_to _ (fun j hj => by rw [hg j hj]))
  · have h2 : (wd_ X (ua σ q g))[k]? = (wd_ X σ)[k]? := by
      unfold wd_
      rw [List.getElem?_mapIdx, List.getElem?_mapIdx, ua_ne e]
    rw [h2] at hw
    exact hP k w hw
theorem qv_ext (q : Nat) {n : Nat} {z : Bool} {g : Nat → Nat} (hq : dz_[q]? = some (.inl (z, n))) (hg : ∀ k, k < n → g k = σ q k) (k : vv_ p l e R s m args below meth c Q X nL L (ua σ q g) pc st) : vv_ p l e R s m args below meth c Q X nL L σ pc st :=
  fun H locs ls h hP hS => k H locs ls h (wd_ext hq hg hP) hS
end CX
section CW
variable {p : Program} {l : Launch} {e : Env} {R : Room} {s : State} {m : MethodId} {args : Array Value} {below : List Frame} {meth : Method} {c : Code} {Q : State → Prop}
variable {X : wX} {nL : Nat} {L : List (Nat × Value)} {σ : sg} {pc : Nat} {st : List Value} {cc : ByteArray} {own : String}
theorem qv_tsw (F : fx_ p s m args c cc nL own X) {dflt lo hi : Int} {offs : Array Int} {len a : Nat} (hd : decode cc pc = .ok (.tableswitch dflt lo hi offs, len)) (ha : a < 2 ^ 31) (h1 : ¬ (a : Int) < lo) (h2 : ¬ hi < (a : Int)) {off : Int} {tgt : Nat} (ho : offs[((a : Int) - lo).toNat]? = some off) (ht : (pc : Int) + off = (tgt : Int)) (k : vv_ p l e R s m args below meth c Q X nL L σ tgt st) : vv_ p l e R s m args below meth c Q X nL L σ pc (.int (nI a) :: st) :=
  fun H locs ls h hP hS => lv_tableIn (fx_x F) (fx_b F) hd (by rw [nI_toInt ha]; exact h1) (by rw [nI_toInt ha]; exact h2) (by rw [nI_toInt ha]; exact ho) ht (k H locs ls h hP hS)
theorem qv_tswO (F : fx_ p s m args c cc nL own X) {dflt lo hi : Int} {offs : Array Int} {len a : Nat} (hd : decode cc pc = .ok (.tableswitch dflt lo hi offs, len)) (ha : a < 2 ^ 31) (h1 : (a : Int) < lo ∨ hi < (a : Int)) {tgt : Nat} (ht : (pc : Int) + dflt = (tgt : Int)) (k : vv_ p l e R s m args below meth c Q X nL L σ tgt st) : vv_ p l e R s m args below meth c Q X nL L σ pc (.int (nI a) :: st) :=
  fun H locs ls h hP hS => lv_tableOut (fx_x F) (fx_b F) hd (by rw [nI_toInt ha]; exact h1) ht (k H locs ls h hP hS)
theorem qv_tswI (F : fx_ p s m args c cc nL own X) {dflt lo hi : Int} {offs : Array Int} {len : Nat} {x : Int32} (hd : decode cc pc = .ok (.tableswitch dflt lo hi offs, len)) (h1 : x.toInt < lo ∨ hi < x.toInt) {tgt : Nat} (ht : (pc : Int) + dflt = (tgt : Int)) (k : vv_ p l e R s m args below meth c Q X nL L σ tgt st) : vv_ p l e R s m args below meth c Q X nL L σ pc (.int x :: st) :=
  fun H locs ls h hP hS => lv_tableOut (fx_x F) (fx_b F) hd h1 ht (k H locs ls h hP hS)
theorem qv_lsw (F : fx_ p s m args c cc nL own X) {dflt : Int} {ps : Array (Int × Int)} {len : Nat} {x : Int32} (hd : decode cc pc = .ok (.lookupswitch dflt ps, len)) (hp : (ps.toList.zip (ps.toList.drop 1)).all (fun (a, next) => a.1 < next.1) = true) {off : Int} {tgt : Nat} (ho : Op.lookupswitch.offset ps.toList dflt x.toInt = off) (ht : (pc : Int) + off = (tgt : Int)) (k : vv_ p l e R s m args below meth c Q X nL L σ tgt st) : vv_ p l e R s m args below meth c Q X nL L σ pc (.int x :: st) :=
  fun H locs ls h hP hS => lv_lookup (fx_x F) (fx_b F) hd hp ho ht (k H locs ls h hP hS)
end CW
end
section
/-! sums, iterations -/
def sm_ (f : Nat → Nat) : Nat → Nat
  | 0 => 0
  | n + 1 => sm_ f n + f n
def it_ {α : Type} (f : Nat → α → α) : Nat → α → α
  | 0, a => a
  | n + 1, a => f n (it_ f n a)
theorem sm_le {f g : Nat → Nat} : ∀ n, (∀ k, k < n → f k ≤ g k) → sm_ f n ≤ sm_ g n
  | 0, _ => Nat.le_refl _
  | n + 1, h => Nat.add_le_add (sm_le n (fun k hk => h k (by omega))) (h n (by omega))
theorem sm_lt {f g : Nat → Nat} : ∀ n j, j < n → (∀ k, k < n → f k ≤ g k) → f j < g j → sm_ f n < sm_ g n
  | 0, _, hj, _, _ => by omega
  | n + 1, j, hj, h, hl => by
    have h1 := h n (by omega)
    by_cases e : j = n
    · subst e
      have h2 := sm_le j (fun k hk => h k (by omega))
      show sm_ f j + f j < sm_ g j + g j
      omega
    · have h2 := sm_lt n j (by omega) (fun k hk => h k (by omega)) hl
      show sm_ f n + f n < sm_ g n + g n
      omega
theorem sm_eq {f g : Nat → Nat} : ∀ n, (∀ k, k < n → f k = g k) → sm_ f n = sm_ g n
  | 0, _ => rfl
  | n + 1, h => by
    show sm_ f n + f n = sm_ g n + g n
    rw [sm_eq n (fun k hk => h k (by omega)), h n (by omega)]
theorem sm_cap {f : Nat → Nat} {b : Nat} : ∀ n, (∀ k, k < n → f k ≤ b) → sm_ f n ≤ n * b
  | 0, _ => Nat.zero_le _
  | n + 1, h => by
    have h1 := sm_cap n (fun k hk => h k (by omega))
    have h2 := h n (by omega)
    show sm_ f n + f n ≤ (n + 1) * b
    rw [Nat.succ_mul]
    omega
theorem sm_up {q : Nat → Nat} {p : Nat → Nat} {i x : Nat} : ∀ n, i < n → sm_ (fun k => q (va_up p i x k)) n + q (p i) = sm_ (fun k => q (p k)) n + q x
  | 0, h => by omega
  | n + 1, h => by
    show sm_ (fun k => q (va_up p i x k)) n + q (va_up p i x n) + q (p i) = sm_ (fun k => q (p k)) n + q (p n) + q x
    by_cases e : i = n
    · subst e
      have h1 : sm_ (fun k => q (va_up p i x k)) i = sm_ (fun k => q (p k)) i := sm_eq i (fun k hk => by rw [up_ne (by omega)])
      rw [h1, up_eq]
      omega
    · have h1 := sm_up (q := q) (p := p) (i := i) (x := x) n (by omega)
      rw [up_ne (fun z => e z.symm)]
      omega
/-- how many of the first eight bits are set -/
def pc_ (x : Nat) : Nat := sm_ (fun h => (x.testBit h).toNat) 8
theorem pc_le (x : Nat) : pc_ x ≤ 8 := by
  have h := sm_cap (f := fun h => (x.testBit h).toNat) (b := 1) 8 (fun k _ => by cases x.testBit k <;> decide)
  exact h
theorem or_256 {a b : Nat} (ha : a < 256) (hb : b < 256) : a ||| b < 256 := Nat.or_lt_two_pow (n := 8) ha hb
theorem and_256 {a b : Nat} (hb : b < 256) : a &&& b < 256 := Nat.lt_of_le_of_lt Nat.and_le_right hb
theorem tb_256 {a i : Nat} (ha : a < 256) (hi : 8 ≤ i) : a.testBit i = false := Nat.testBit_lt_two_pow (Nat.lt_of_lt_of_le ha (show 2 ^ 8 ≤ 2 ^ i from Nat.pow_le_pow_right (by decide) hi))
theorem pc_lt {a b : Nat} (ha : a < 256) (hb : b < 256) (h : a ||| b ≠ a) : pc_ a < pc_ (a ||| b) := by
  have h1 : ∃ j, j < 8 ∧ a.testBit j = false ∧ (a ||| b).testBit j = true := by
    refine Classical.byContradiction fun hn => h ?_
    apply Nat.eq_of_testBit_eq
    intro i
    by_cases hi : i < 8
    · cases ea : a.testBit i with
      | true => rw [Nat.testBit_or, ea]; rfl
      | false =>
        cases eb : (a ||| b).testBit i with
        | false => rfl
        | true => exact absurd ⟨i, hi, ea, eb⟩ hn
    · rw [tb_256 ha (by omega), tb_256 (or_256 ha hb) (by omega)]
  obtain ⟨j, hj, e1, e2⟩ := h1
  refine sm_lt 8 j hj (fun k _ => ?_) ?_
  · show (a.testBit k).toNat ≤ ((a ||| b).testBit k).toNat
    rw [Nat.testBit_or]
    cases a.testBit k <;> cases b.testBit k <;> decide
  · show (a.testBit j).toNat < ((a ||| b).testBit j).toNat
    rw [e1, e2]
    decide
/-! the relations: points, holds, a flag -/
abbrev rs_ : Type := (Nat → Nat) × (Nat → Nat) × Nat
def ad_ (w : Nat → Nat) (c v x : Nat) (s : rs_) : rs_ := (va_up s.1 (c * 16 + v) (s.1 (c * 16 + v) ||| (x &&& w v)), s.2.1, if s.1 (c * 16 + v) ||| (x &&& w v) = s.1 (c * 16 + v) then s.2.2 else 1)
def h1_ (f x h : Nat) (s : rs_) : rs_ := (s.1, va_up s.2.1 (h * 2 + f) (s.2.1 (h * 2 + f) ||| x), if s.2.1 (h * 2 + f) ||| x = s.2.1 (h * 2 + f) then s.2.2 else 1)
def hs_ (set f x : Nat) : Nat → rs_ → rs_ := it_ (fun h s => if set.testBit h = true then h1_ f x h s else s)
def ha_ (hl : Nat → Nat) (set f : Nat) : Nat → Nat
  | 0 => 0
  | h + 1 => ha_ hl set f h ||| (if set.testBit h = true then hl (h * 2 + f) else 0)
def sx_ (t : sg) (w : Nat → Nat) (k c : Nat) (s : rs_) : rs_ :=
  if t 7 k = 0 then ad_ w c (t 8 k) (1 * 2 ^ t 9 k) s
  else if t 7 k = 1 then ad_ w c (t 8 k) (s.1 (c * 16 + t 9 k)) s
  else if t 7 k = 2 then hs_ (s.1 (c * 16 + t 8 k)) (t 10 k) (s.1 (c * 16 + t 9 k)) 8 s
  else ad_ w c (t 8 k) (ha_ s.2.1 (s.1 (c * 16 + t 9 k)) (t 10 k) 8) s
def ss_ (t : sg) (w mn : Nat → Nat) (n : Nat) (s : rs_) : rs_ := it_ (fun k => it_ (sx_ t w k) (mn (t 8 k / 4))) n s
def pa_ (t : sg) (w : Nat → Nat) (c d q : Nat) (s : rs_) : rs_ := if t 16 q = 0 then ad_ w d (t 14 q) (s.1 (c * 16 + t 15 q)) s else ad_ w c (t 14 q) (s.1 (d * 16 + t 15 q)) s
def pp_ (t : sg) (w : Nat → Nat) (k c d n : Nat) (s : rs_) : rs_ := it_ (fun j => pa_ t w c d (k * 4 + j)) n s
def cs_ (t : sg) (w mn bs : Nat → Nat) (n : Nat) (s : rs_) : rs_ := it_ (fun k => it_ (fun c => pp_ t w k c (bs k + c) (t 13 k)) (mn (t 11 k))) n s
def rd_ (t : sg) (w mn bs : Nat → Nat) (ns nc : Nat) (s : rs_) : rs_ := cs_ t w mn bs nc (ss_ t w mn ns (s.1, s.2.1, 0))
def lo_ (f : rs_ → rs_) : Nat → rs_ → rs_
  | 0, s => s
  | n + 1, s => if s.2.2 = 0 then s else lo_ f n (f s)
def wt_ (s : rs_) : Nat := sm_ (fun k => pc_ (s.1 k)) 128 + sm_ (fun k => pc_ (s.2.1 k)) 16
def B_ (s : rs_) : Prop := (∀ k, s.1 k < 256) ∧ ∀ k, s.2.1 k < 256
theorem wt_le (s : rs_) : wt_ s ≤ 1152 := by
  have h1 := sm_cap (f := fun k => pc_ (s.1 k)) (b := 8) 128 (fun k _ => pc_le _)
  have h2 := sm_cap (f := fun k => pc_ (s.2.1 k)) (b := 8) 16 (fun k _ => pc_le _)
  unfold wt_
  omega
/-- a step: nothing, or the flag is up and there is more -/
def gs_ (s s' : rs_) : Prop := s' = s ∨ (s'.2.2 = 1 ∧ wt_ s < wt_ s')
theorem gs_tr {a b d : rs_} (h1 : gs_ a b) (h2 : gs_ b d) : gs_ a d := by
  rcases h1 with h1 | ⟨f1, w1⟩
  · subst h1; exact h2
  · rcases h2 with h2 | ⟨f2, w2⟩
    · subst h2; exact Or.inr ⟨f1, w1⟩
    · exact Or.inr ⟨f2, by omega⟩
theorem it_gs {f : Nat → rs_ → rs_} (h : ∀ k s, B_ s → gs_ s (f k s) ∧ B_ (f k s)) : ∀ n s, B_ s → gs_ s (it_ f n s) ∧ B_ (it_ f n s)
  | 0, s, hs => ⟨Or.inl rfl, hs⟩
  | n + 1, s, hs => by
    obtain ⟨g1, b1⟩ := it_gs h n s hs
    obtain ⟨g2, b2⟩ := h n _ b1
    exact ⟨gs_tr g1 g2, b2⟩
theorem it_gsL {f : Nat → rs_ → rs_} : ∀ n, (∀ k, k < n → ∀ s, B_ s → gs_ s (f k s) ∧ B_ (f k s)) → ∀ s, B_ s → gs_ s (it_ f n s) ∧ B_ (it_ f n s)
  | 0, _, s, hs => ⟨Or.inl rfl, hs⟩
  | n + 1, h, s, hs => by
    obtain ⟨g1, b1⟩ := it_gsL n (fun k hk => h k (by omega)) s hs
    obtain ⟨g2, b2⟩ := h n (by omega) _ b1
    exact ⟨gs_tr g1 g2, b2⟩
theorem up_256 {f : Nat → Nat} {i x : Nat} (hf : ∀ k, f k < 256) (hx : x < 256) : ∀ k, va_up f i x k < 256 := by
  intro k
  by_cases h : k = i
  · subst h; rw [up_eq]; exact hx
  · rw [up_ne h]; exact hf k
theorem ad_gs {w : Nat → Nat} {c v x : Nat} {s : rs_} (hw : ∀ k, w k < 256) (hi : c * 16 + v < 128) (hs : B_ s) : gs_ s (ad_ w c v x s) ∧ B_ (ad_ w c v x s) := by
  obtain ⟨p, h, g⟩ := s
  have hx : x &&& w v < 256 := and_256 (hw v)
  have hp : p (c * 16 + v) < 256 := hs.1 _
  refine ⟨?_, ⟨up_256 hs.1 (or_256 hp hx), hs.2⟩⟩
  by_cases e : p (c * 16 + v) ||| (x &&& w v) = p (c * 16 + v)
  · left
    show ((va_up p (c * 16 + v) (p (c * 16 + v) ||| (x &&& w v)), h, if p (c * 16 + v) ||| (x &&& w v) = p (c * 16 + v) then g else 1) : rs_) = (p, h, g)
    rw [if_pos e, e, up_id]
  · right
    refine ⟨if_neg e, ?_⟩
    have h1 := pc_lt hp hx e
    have h2 := sm_up (q := pc_) (p := p) (i := c * 16 + v) (x := p (c * 16 + v) ||| (x &&& w v)) 128 hi
    show sm_ (fun k => pc_ (p k)) 128 + sm_ (fun k => pc_ (h k)) 16 < sm_ (fun k => pc_ (va_up p (c * 16 + v) (p (c * 16 + v) ||| (x &&& w v)) k)) 128 + sm_ (fun k => pc_ (h k)) 16
    omega
theorem h1_gs {f x h : Nat} {s : rs_} (hx : x < 256) (hi : h * 2 + f < 16) (hs : B_ s) : gs_ s (h1_ f x h s) ∧ B_ (h1_ f x h s) := by
  obtain ⟨p, q, g⟩ := s
  have hq : q (h * 2 + f) < 256 := hs.2 _
  refine ⟨?_, ⟨hs.1, up_256 hs.2 (or_256 hq hx)⟩⟩
  by_cases e : q (h * 2 + f) ||| x = q (h * 2 + f)
  · left
    show ((p, va_up q (h * 2 + f) (q (h * 2 + f) ||| x), if q (h * 2 + f) ||| x = q (h * 2 + f) then g else 1) : rs_) = (p, q, g)
    rw [if_pos e, e, up_id]
  · right
    refine ⟨if_neg e, ?_⟩
    have h1 := pc_lt hq hx e
    have h2 := sm_up (q := pc_) (p := q) (i := h * 2 + f) (x := q (h * 2 + f) ||| x) 16 hi
    show sm_ (fun k => pc_ (p k)) 128 + sm_ (fun k => pc_ (q k)) 16 < sm_ (fun k => pc_ (p k)) 128 + sm_ (fun k => pc_ (va_up q (h * 2 + f) (q (h * 2 + f) ||| x) k)) 16
    omega
theorem hs_gs {set f x : Nat} {s : rs_} (hx : x < 256) (hf : f < 2) (hs : B_ s) : gs_ s (hs_ set f x 8 s) ∧ B_ (hs_ set f x 8 s) := by
  refine it_gsL 8 (fun k hk s hs => ?_) s hs
  show gs_ s (if set.testBit k = true then h1_ f x k s else s) ∧ B_ (if set.testBit k = true then h1_ f x k s else s)
  by_cases e : set.testBit k = true
  · rw [if_pos e]; exact h1_gs hx (by omega) hs
  · rw [if_neg e]; exact ⟨Or.inl rfl, hs⟩
/-- what has been told, within its bounds -/
def tw_ (t : sg) : Prop := (∀ k, t 5 k < 4) ∧ (∀ k, t 6 k < 16) ∧ (∀ k, t 7 k < 4) ∧ (∀ k, t 8 k < 16) ∧ (∀ k, t 9 k < 16) ∧ (∀ k, t 10 k < 2) ∧ (∀ k, t 11 k < 4) ∧ (∀ k, t 12 k < 4) ∧ (∀ k, t 13 k ≤ 4) ∧ (∀ k, t 14 k < 16) ∧ (∀ k, t 15 k < 16) ∧ ∀ k, t 16 k < 2
theorem sx_gs {t : sg} {w : Nat → Nat} {k c : Nat} {s : rs_} (ht : tw_ t) (hw : ∀ k, w k < 256) (hc : c < 8) (hs : B_ s) : gs_ s (sx_ t w k c s) ∧ B_ (sx_ t w k c s) := by
  obtain ⟨-, -, -, t8, t9, t10, -⟩ := ht
  have h8 := t8 k
  have h9 := t9 k
  unfold sx_
  by_cases e0 : t 7 k = 0
  · rw [if_pos e0]; exact ad_gs hw (by omega) hs
  · rw [if_neg e0]
    by_cases e1 : t 7 k = 1
    · rw [if_pos e1]; exact ad_gs hw (by omega) hs
    · rw [if_neg e1]
      by_cases e2 : t 7 k = 2
      · rw [if_pos e2]; exact hs_gs (hs.1 _) (t10 k) hs
      · rw [if_neg e2]; exact ad_gs hw (by omega) hs
theorem ss_gs {t : sg} {w mn : Nat → Nat} {n : Nat} {s : rs_} (ht : tw_ t) (hw : ∀ k, w k < 256) (hm : ∀ a, a < 4 → mn a ≤ 8) (hs : B_ s) : gs_ s (ss_ t w mn n s) ∧ B_ (ss_ t w mn n s) := by
  refine it_gs (fun k s hs => it_gsL _ (fun c hc s hs => sx_gs ht hw ?_ hs) s hs) n s hs
  have h8 := ht.2.2.2.1 k
  have h1 := hm (t 8 k / 4) (by omega)
  omega
theorem pa_gs {t : sg} {w : Nat → Nat} {c d q : Nat} {s : rs_} (ht : tw_ t) (hw : ∀ k, w k < 256) (hc : c < 8) (hd : d < 8) (hs : B_ s) : gs_ s (pa_ t w c d q s) ∧ B_ (pa_ t w c d q s) := by
  obtain ⟨-, -, -, -, -, -, -, -, -, t14, -⟩ := ht
  have h := t14 q
  unfold pa_
  by_cases e : t 16 q = 0
  · rw [if_pos e]; exact ad_gs hw (by omega) hs
  · rw [if_neg e]; exact ad_gs hw (by omega) hs
theorem cs_gs {t : sg} {w mn bs : Nat → Nat} {n : Nat} {s : rs_} (ht : tw_ t) (hw : ∀ k, w k < 256) (hb : ∀ k, k < n → bs k + mn (t 11 k) ≤ 8) (hs : B_ s) : gs_ s (cs_ t w mn bs n s) ∧ B_ (cs_ t w mn bs n s) := by
  refine it_gsL n (fun k hk s hs => it_gsL _ (fun c hc s hs => ?_) s hs) s hs
  have h1 := hb k hk
  exact it_gs (fun j s hs => pa_gs ht hw (by omega) (by omega) hs) _ s hs
theorem rd_gs {t : sg} {w mn bs : Nat → Nat} {ns nc : Nat} {s : rs_} (ht : tw_ t) (hw : ∀ k, w k < 256) (hm : ∀ a, a < 4 → mn a ≤ 8) (hb : ∀ k, k < nc → bs k + mn (t 11 k) ≤ 8) (hs : B_ s) : gs_ (s.1, s.2.1, 0) (rd_ t w mn bs ns nc s) ∧ B_ (rd_ t w mn bs ns nc s) := by
  have h0 : B_ (s.1, s.2.1, 0) := hs
  obtain ⟨g1, b1⟩ := ss_gs (n := ns) ht hw hm h0
  obtain ⟨g2, b2⟩ := cs_gs (n := nc) ht hw hb b1
  exact ⟨gs_tr g1 g2, b2⟩
theorem lo_0 {f : rs_ → rs_} {s : rs_} (h : s.2.2 = 0) : ∀ n, lo_ f n s = s
  | 0 => rfl
  | n + 1 => if_pos h
theorem lo_eq {f : rs_ → rs_} (hf : ∀ s, B_ s → gs_ (s.1, s.2.1, 0) (f s) ∧ B_ (f s)) : ∀ n m s, B_ s → 1152 < n + wt_ s → 1152 < m + wt_ s → lo_ f n s = lo_ f m s
  | 0, m, s, _, h1, _ => by have := wt_le s; omega
  | n + 1, 0, s, _, _, h2 => by have := wt_le s; omega
  | n + 1, m + 1, s, hs, h1, h2 => by
    show (if s.2.2 = 0 then s else lo_ f n (f s)) = if s.2.2 = 0 then s else lo_ f m (f s)
    by_cases e : s.2.2 = 0
    · rw [if_pos e, if_pos e]
    · rw [if_neg e, if_neg e]
      obtain ⟨g, b⟩ := hf s hs
      rcases g with g | ⟨g1, g2⟩
      · have e0 : (f s).2.2 = 0 := by rw [g]
        rw [lo_0 e0, lo_0 e0]
      · have hw : wt_ (s.1, s.2.1, 0) = wt_ s := rfl
        exact lo_eq hf n m (f s) b (by omega) (by omega)
/-- the class's rounds and the reference's come to the same -/
theorem lo_same {t : sg} {w mn bs : Nat → Nat} {ns nc : Nat} (ht : tw_ t) (hw : ∀ k, w k < 256) (hm : ∀ a, a < 4 → mn a ≤ 8) (hb : ∀ k, k < nc → bs k + mn (t 11 k) ≤ 8) (s : rs_) (hs : B_ s) : lo_ (rd_ t w mn bs ns nc) 1153 s = lo_ (rd_ t w mn bs ns nc) 1200 s :=
  lo_eq (fun s hs => rd_gs ht hw hm hb hs) 1153 1200 s hs (by omega) (by omega)
/-! who reaches whom, and how many contexts -/
abbrev rl_ : Type := Nat → Nat → Bool
def w1_ (m : Nat) (C : rl_) : rl_ := fun a b => C a b || (C a m && C m b)
def wc_ (C : rl_) : rl_ := w1_ 3 (w1_ 2 (w1_ 1 (w1_ 0 C)))
/-- the calls themselves -/
def c0_ (t : sg) : Nat → rl_
  | 0, _, _ => false
  | k + 1, a, b => c0_ t k a b || (t 11 k == a && t 12 k == b)
theorem c0_in {t : sg} : ∀ {n k : Nat}, k < n → c0_ t n (t 11 k) (t 12 k) = true
  | n + 1, k, h => by
    show (c0_ t n (t 11 k) (t 12 k) || (t 11 n == t 11 k && t 12 n == t 12 k)) = true
    by_cases e : k = n
    · subst e; simp
    · rw [c0_in (t := t) (n := n) (k := k) (by omega)]; rfl
theorem w1_up {m : Nat} {C : rl_} {a b : Nat} (h : C a b = true) : w1_ m C a b = true := by unfold w1_; rw [h]; rfl
theorem wc_up {C : rl_} {a b : Nat} (h : C a b = true) : wc_ C a b = true := w1_up (w1_up (w1_up (w1_up h)))
/-- ways through k are ways -/
def th_ (C : rl_) (k : Nat) : Prop := ∀ a b, C a k = true → C k b = true → C a b = true
theorem w1_is {m : Nat} {C : rl_} {a b : Nat} : w1_ m C a b = true ↔ C a b = true ∨ (C a m = true ∧ C m b = true) := by
  unfold w1_
  rw [Bool.or_eq_true, Bool.and_eq_true]
theorem w1_own {m : Nat} {C : rl_} : th_ (w1_ m C) m := by
  intro a b h1 h2
  rw [w1_is] at h1 h2 ⊢
  right
  constructor
  · rcases h1 with h1 | h1
    · exact h1
    · exact h1.1
  · rcases h2 with h2 | h2
    · exact h2
    · exact h2.2
theorem w1_th {m k : Nat} {C : rl_} (h : th_ C k) : th_ (w1_ m C) k := by
  intro a b h1 h2
  rw [w1_is] at h1 h2 ⊢
  rcases h1 with h1 | ⟨h1, h1'⟩
  · rcases h2 with h2 | ⟨h2, h2'⟩
    · exact Or.inl (h a b h1 h2)
    · exact Or.inr ⟨h a m h1 h2, h2'⟩
  · rcases h2 with h2 | ⟨h2, h2'⟩
    · exact Or.inr ⟨h1, h m b h1' h2⟩
    · exact Or.inr ⟨h1, h2'⟩
theorem wc_th (C : rl_) : ∀ k, k < 4 → th_ (wc_ C) k := by
  intro k hk
  have h : k = 0 ∨ k = 1 ∨ k = 2 ∨ k = 3 := by omega
  rcases h with rfl | rfl | rfl | rfl
  · exact w1_th (w1_th (w1_th w1_own))
  · exact w1_th (w1_th w1_own)
  · exact w1_th w1_own
  · exact w1_own
def gp_ (C : rl_) (a b : Nat) : Bool := a == b || (C a b && C b a)
def ou_ (t : sg) (C : rl_) (k : Nat) : Bool := !gp_ C (t 11 k) (t 12 k)
def b1_ (t : sg) (C : rl_) (f : Nat → Nat) (m k : Nat) : Nat := if (ou_ t C k && gp_ C (t 12 k) m) = true then f (t 11 k) else 0
def br_ (t : sg) (C : rl_) (f : Nat → Nat) (m : Nat) : Nat → Nat := sm_ (b1_ t C f m)
def rk_ (C : rl_) (m : Nat) : Nat := sm_ (fun a => (C a m && !C m a).toNat) 4
theorem bn_le (b : Bool) : b.toNat ≤ 1 := by cases b <;> decide
theorem rk_3 (C : rl_) {m : Nat} (hm : m < 4) : rk_ C m ≤ 3 := by
  have e : (C m m && !C m m).toNat = 0 := by cases C m m <;> rfl
  have h0 := bn_le (C 0 m && !C m 0)
  have h1 := bn_le (C 1 m && !C m 1)
  have h2 := bn_le (C 2 m && !C m 2)
  have h3 := bn_le (C 3 m && !C m 3)
  show 0 + (C 0 m && !C m 0).toNat + (C 1 m && !C m 1).toNat + (C 2 m && !C m 2).toNat + (C 3 m && !C m 3).toNat ≤ 3
  have h : m = 0 ∨ m = 1 ∨ m = 2 ∨ m = 3 := by omega
  rcases h with rfl | rfl | rfl | rfl <;> omega
theorem rk_lt {C : rl_} (hT : ∀ k, k < 4 → th_ C k) {a d m : Nat} (ha : a < 4) (hd : d < 4) (hm : m < 4) (h0 : C a d = true) (ho : gp_ C a d = false) (hg : gp_ C d m = true) : rk_ C a < rk_ C m := by
  have had : a ≠ d := by
    intro e
    subst e
    simp [gp_] at ho
  have hda : C d a = false := by
    simp only [gp_, Bool.or_eq_false_iff, h0, Bool.true_and] at ho
    exact ho.2
  have ham : C a m = true := by
    simp only [gp_, Bool.or_eq_true, beq_iff_eq, Bool.and_eq_true] at hg
    rcases hg with rfl | hg
    · exact h0
    · exact hT d hd a m h0 hg.1
  have hma : C m a = false := by
    cases e : C m a with
    | false => rfl
    | true =>
      simp only [gp_, Bool.or_eq_true, beq_iff_eq, Bool.and_eq_true] at hg
      rcases hg with rfl | hg
      · rw [hda] at e; cases e
      · rw [hT m hm d a hg.1 e] at hda; cases hda
  refine sm_lt 4 a ha (fun b hb => ?_) ?_
  · show (C b a && !C a b).toNat ≤ (C b m && !C m b).toNat
    cases e1 : C b a with
    | false => simp
    | true =>
      cases e2 : C a b with
      | true => simp
      | false =>
        have e3 : C b m = true := hT a ha b m e1 ham
        have e4 : C m b = false := by
          cases e : C m b with
          | false => rfl
          | true => rw [hT m hm a b ham e] at e2; cases e2
        rw [e3, e4]
        decide
  · show (C a a && !C a a).toNat < (C a m && !C m a).toNat
    rw [ham, hma]
    cases C a a <;> decide
/-! sweeps come to the one answer -/
def sw_ (Φ : (Nat → Nat) → Nat → Nat) (f : Nat → Nat) : Nat → Nat → Nat := fun n => it_ (fun m f => va_up f m (Φ f m)) n f
def lc_ (r : Nat → Nat) (Φ : (Nat → Nat) → Nat → Nat) : Prop := ∀ f g m, m < 4 → (∀ a, a < 4 → r a < r m → f a = g a) → Φ f m = Φ g m
theorem sw_in {r : Nat → Nat} {Φ : (Nat → Nat) → Nat → Nat} (hΦ : lc_ r Φ) {S : Nat → Nat} (hS : ∀ m, m < 4 → S m = Φ S m) {f : Nat → Nat} {d : Nat} (hf : ∀ a, a < 4 → r a < d → f a = S a) : ∀ n, n ≤ 4 → (∀ a, a < 4 → r a < d → sw_ Φ f n a = S a) ∧ ∀ a, a < n → r a < d + 1 → sw_ Φ f n a = S a
  | 0, _ => ⟨hf, fun a ha => by omega⟩
  | n + 1, hn => by
    obtain ⟨h1, h2⟩ := sw_in hΦ hS hf n (by omega)
    have key : r n < d + 1 → Φ (sw_ Φ f n) n = S n := fun hr => by
      rw [hS n (by omega)]
      exact hΦ _ _ n (by omega) (fun a ha hl => h1 a ha (by omega))
    refine ⟨fun a ha hr => ?_, fun a ha hr => ?_⟩
    · show va_up (sw_ Φ f n) n (Φ (sw_ Φ f n) n) a = S a
      by_cases e : a = n
      · subst e; rw [up_eq]; exact key (by omega)
      · rw [up_ne e]; exact h1 a ha hr
    · show va_up (sw_ Φ f n) n (Φ (sw_ Φ f n) n) a = S a
      by_cases e : a = n
      · subst e; rw [up_eq]; exact key hr
      · rw [up_ne e]; exact h2 a (by omega) hr
def sn_ (Φ : (Nat → Nat) → Nat → Nat) (f : Nat → Nat) : Nat → Nat → Nat := fun n => it_ (fun _ f => sw_ Φ f 4) n f
theorem sn_in {r : Nat → Nat} {Φ : (Nat → Nat) → Nat → Nat} (hΦ : lc_ r Φ) {S : Nat → Nat} (hS : ∀ m, m < 4 → S m = Φ S m) (f : Nat → Nat) : ∀ n a, a < 4 → r a < n → sn_ Φ f n a = S a
  | 0, _, _, h => by omega
  | n + 1, a, ha, h => (sw_in hΦ hS (fun a ha h => sn_in hΦ hS f n a ha h) 4 (Nat.le_refl _)).2 a ha h
/-- there is an answer -/
def jc_ (Φ : (Nat → Nat) → Nat → Nat) : Nat → Nat → Nat
  | 0 => fun _ => 1
  | n + 1 => Φ (jc_ Φ n)
theorem jc_st {r : Nat → Nat} {Φ : (Nat → Nat) → Nat → Nat} (hΦ : lc_ r Φ) : ∀ n a, a < 4 → r a < n → jc_ Φ n a = jc_ Φ (n + 1) a
  | 0, _, _, h => by omega
  | n + 1, a, ha, h => hΦ _ _ a ha (fun b hb hl => jc_st hΦ n b hb (by omega))
theorem jc_fix {r : Nat → Nat} {Φ : (Nat → Nat) → Nat → Nat} (hΦ : lc_ r Φ) (hr : ∀ a, a < 4 → r a ≤ 3) : ∀ m, m < 4 → jc_ Φ 4 m = Φ (jc_ Φ 4) m := fun m hm => jc_st hΦ 4 m hm (by have := hr m hm; omega)
/-! the two ways to count -/
def f1_ (t : sg) (C : rl_) (nc : Nat) (f : Nat → Nat) (m : Nat) : Nat := max 1 (br_ t C f m nc)
def cl9 (n : Nat) : Nat := if n = 0 then 1 else if 9 < n then 9 else n
def f2_ (t : sg) (C : rl_) (nc : Nat) (f : Nat → Nat) (m : Nat) : Nat := cl9 (br_ t C f m nc)
/-- the calls lie in C, methods are four, C has its ways -/
def ok_ (t : sg) (C : rl_) (nc : Nat) : Prop := (∀ k, t 11 k < 4) ∧ (∀ k, t 12 k < 4) ∧ (∀ k, k < nc → C (t 11 k) (t 12 k) = true) ∧ ∀ k, k < 4 → th_ C k
theorem ok_wc {t : sg} (h1 : ∀ k, t 11 k < 4) (h2 : ∀ k, t 12 k < 4) (nc : Nat) : ok_ t (wc_ (c0_ t nc)) nc := ⟨h1, h2, fun _ hk => wc_up (c0_in hk), wc_th _⟩
theorem b1_rk {t : sg} {C : rl_} {nc : Nat} (h : ok_ t C nc) {m k : Nat} (hm : m < 4) (hk : k < nc) (ho : (ou_ t C k && gp_ C (t 12 k) m) = true) : rk_ C (t 11 k) < rk_ C m := by
  rw [Bool.and_eq_true] at ho
  refine rk_lt h.2.2.2 (h.1 k) (h.2.1 k) hm (h.2.2.1 k hk) ?_ ho.2
  have := ho.1
  simpa [ou_] using this
theorem br_loc {t : sg} {C : rl_} {nc : Nat} (h : ok_ t C nc) {f g : Nat → Nat} {m : Nat} (hm : m < 4) (hfg : ∀ a, a < 4 → rk_ C a < rk_ C m → f a = g a) : br_ t C f m nc = br_ t C g m nc := by
  refine sm_eq nc (fun k hk => ?_)
  unfold b1_
  by_cases e : (ou_ t C k && gp_ C (t 12 k) m) = true
  · rw [if_pos e, if_pos e]; exact hfg _ (h.1 k) (b1_rk h hm hk e)
  · rw [if_neg e, if_neg e]
theorem f1_lc {t : sg} {C : rl_} {nc : Nat} (h : ok_ t C nc) : lc_ (rk_ C) (f1_ t C nc) := fun f g m hm hfg => by unfold f1_; rw [br_loc h hm hfg]
theorem f2_lc {t : sg} {C : rl_} {nc : Nat} (h : ok_ t C nc) : lc_ (rk_ C) (f2_ t C nc) := fun f g m hm hfg => by unfold f2_; rw [br_loc h hm hfg]
def so_ (t : sg) (C : rl_) (nc : Nat) : Nat → Nat := jc_ (f1_ t C nc) 4
theorem so_1 {t : sg} {C : rl_} {nc : Nat} (h : ok_ t C nc) : ∀ m, m < 4 → so_ t C nc m = f1_ t C nc (so_ t C nc) m := jc_fix (f1_lc h) (fun a ha => rk_3 C ha)
theorem br_9 {t : sg} {C : rl_} {f : Nat → Nat} {m : Nat} : ∀ n, br_ t C (fun a => min 9 (f a)) m n = br_ t C f m n ∨ (9 ≤ br_ t C (fun a => min 9 (f a)) m n ∧ br_ t C (fun a => min 9 (f a)) m n ≤ br_ t C f m n)
  | 0 => Or.inl rfl
  | n + 1 => by
    have ih := br_9 (t := t) (C := C) (f := f) (m := m) n
    have e1 : br_ t C (fun a => min 9 (f a)) m (n + 1) = br_ t C (fun a => min 9 (f a)) m n + b1_ t C (fun a => min 9 (f a)) m n := rfl
    have e2 : br_ t C f m (n + 1) = br_ t C f m n + b1_ t C f m n := rfl
    rw [e1, e2]
    have e3 : b1_ t C (fun a => min 9 (f a)) m n = b1_ t C f m n ∨ (b1_ t C (fun a => min 9 (f a)) m n = 9 ∧ 9 ≤ b1_ t C f m n) := by
      unfold b1_
      by_cases e : (ou_ t C n && gp_ C (t 12 n) m) = true
      · rw [if_pos e, if_pos e]
        show min 9 (f (t 11 n)) = f (t 11 n) ∨ (min 9 (f (t 11 n)) = 9 ∧ 9 ≤ f (t 11 n))
        omega
      · rw [if_neg e, if_neg e]; exact Or.inl rfl
    omega
theorem so_2 {t : sg} {C : rl_} {nc : Nat} (h : ok_ t C nc) : ∀ m, m < 4 → min 9 (so_ t C nc m) = f2_ t C nc (fun a => min 9 (so_ t C nc a)) m := by
  intro m hm
  have h1 := so_1 h m hm
  have h2 := br_9 (t := t) (C := C) (f := so_ t C nc) (m := m) nc
  unfold f1_ at h1
  unfold f2_ cl9
  generalize br_ t C (so_ t C nc) m nc = A at h1 h2
  generalize br_ t C (fun a => min 9 (so_ t C nc a)) m nc = B at h2 ⊢
  rw [h1]
  by_cases e0 : B = 0
  · rw [if_pos e0]; omega
  · rw [if_neg e0]
    by_cases e9 : 9 < B
    · rw [if_pos e9]; omega
    · rw [if_neg e9]; omega
theorem sn_1 {t : sg} {C : rl_} {nc : Nat} (h : ok_ t C nc) (f : Nat → Nat) {a : Nat} (ha : a < 4) : sn_ (f1_ t C nc) f 4 a = so_ t C nc a := sn_in (f1_lc h) (so_1 h) f 4 a ha (by have := rk_3 C ha; omega)
theorem sn_2 {t : sg} {C : rl_} {nc : Nat} (h : ok_ t C nc) (f : Nat → Nat) {a : Nat} (ha : a < 4) : sn_ (f2_ t C nc) f 5 a = min 9 (so_ t C nc a) := sn_in (f2_lc h) (so_2 h) f 5 a ha (by have := rk_3 C ha; omega)
/-! bounds -/
def hb_ (C : rl_) (f : Nat → Nat) : Prop := ∀ a, a < 4 → f a ≤ 8 ^ rk_ C a
theorem pw_le {C : rl_} {m : Nat} (hm : m < 4) : 8 ^ rk_ C m ≤ 512 := by
  have h := Nat.pow_le_pow_right (show 0 < 8 by decide) (rk_3 C hm)
  exact h
theorem br_b8 {t : sg} {C : rl_} {nc : Nat} (h : ok_ t C nc) {f : Nat → Nat} (hf : hb_ C f) {m : Nat} (hm : m < 4) : ∀ n, n ≤ nc → 8 * br_ t C f m n ≤ n * 8 ^ rk_ C m
  | 0, _ => Nat.zero_le _
  | n + 1, hn => by
    have ih := br_b8 h hf hm n (by omega)
    have e2 : br_ t C f m (n + 1) = br_ t C f m n + b1_ t C f m n := rfl
    have e3 : 8 * b1_ t C f m n ≤ 8 ^ rk_ C m := by
      unfold b1_
      by_cases e : (ou_ t C n && gp_ C (t 12 n) m) = true
      · rw [if_pos e]
        have h1 := b1_rk h hm (by omega) e
        have h2 := hf _ (h.1 n)
        have h3 : 8 ^ (rk_ C (t 11 n) + 1) ≤ 8 ^ rk_ C m := Nat.pow_le_pow_right (by decide) h1
        rw [Nat.pow_succ] at h3
        omega
      · rw [if_neg e]; exact Nat.zero_le _
    have e4 : (n + 1) * 8 ^ rk_ C m = n * 8 ^ rk_ C m + 8 ^ rk_ C m := Nat.succ_mul _ _
    rw [e2, e4]
    generalize 8 ^ rk_ C m = W at ih e3 ⊢
    generalize n * W = Y at ih ⊢
    omega
theorem br_b {t : sg} {C : rl_} {nc : Nat} (h : ok_ t C nc) (h8 : nc ≤ 8) {f : Nat → Nat} (hf : hb_ C f) {m : Nat} (hm : m < 4) {n : Nat} (hn : n ≤ nc) : br_ t C f m n ≤ 8 ^ rk_ C m := by
  have h1 := br_b8 h hf hm n hn
  have h2 : n * 8 ^ rk_ C m ≤ 8 * 8 ^ rk_ C m := Nat.mul_le_mul_right _ (by omega)
  omega
theorem f1_b {t : sg} {C : rl_} {nc : Nat} (h : ok_ t C nc) (h8 : nc ≤ 8) {f : Nat → Nat} (hf : hb_ C f) {m : Nat} (hm : m < 4) : f1_ t C nc f m ≤ 8 ^ rk_ C m := by
  have h1 := br_b h h8 hf hm (Nat.le_refl nc)
  have h2 : 1 ≤ 8 ^ rk_ C m := Nat.one_le_pow _ _ (by decide)
  unfold f1_
  omega
theorem hb_up {C : rl_} {f : Nat → Nat} {m x : Nat} (hf : hb_ C f) (hx : x ≤ 8 ^ rk_ C m) : hb_ C (va_up f m x) := by
  intro a ha
  by_cases e : a = m
  · subst e; rw [up_eq]; exact hx
  · rw [up_ne e]; exact hf a ha
theorem gp_self (C : rl_) (a : Nat) : gp_ C a a = true := by simp [gp_]
theorem br_mono {t : sg} {C : rl_} {f : Nat → Nat} {m : Nat} : ∀ {n k : Nat}, k ≤ n → br_ t C f m k ≤ br_ t C f m n
  | 0, k, h => by
    obtain rfl : k = 0 := by omega
    exact Nat.le_refl _
  | n + 1, k, h => by
    by_cases e : k = n + 1
    · subst e; exact Nat.le_refl _
    · have h1 := br_mono (t := t) (C := C) (f := f) (m := m) (n := n) (k := k) (by omega)
      exact Nat.le_trans h1 (Nat.le_add_right _ _)
/-- what a call's first context is -/
def ba_ (t : sg) (C : rl_) (f : Nat → Nat) (k : Nat) : Nat := if ou_ t C k = true then br_ t C f (t 12 k) k else 0
theorem ba_8 {t : sg} {C : rl_} {nc : Nat} (h : ok_ t C nc) (hg : ∀ m, m < 4 → so_ t C nc m ≤ 8) {k : Nat} (hk : k < nc) : ba_ t C (so_ t C nc) k + so_ t C nc (t 11 k) ≤ 8 := by
  unfold ba_
  by_cases e : ou_ t C k = true
  · rw [if_pos e]
    have h1 := so_1 h (t 12 k) (h.2.1 k)
    have h2 := hg (t 12 k) (h.2.1 k)
    have h3 := br_mono (t := t) (C := C) (f := so_ t C nc) (m := t 12 k) (n := nc) (k := k + 1) (by omega)
    have h4 : br_ t C (so_ t C nc) (t 12 k) (k + 1) = br_ t C (so_ t C nc) (t 12 k) k + so_ t C nc (t 11 k) := by
      show br_ t C (so_ t C nc) (t 12 k) k + b1_ t C (so_ t C nc) (t 12 k) k = _
      unfold b1_
      rw [if_pos (by rw [e, gp_self]; rfl)]
    unfold f1_ at h1
    omega
  · rw [if_neg e]
    have := hg (t 11 k) (h.1 k)
    omega
theorem so_pos {t : sg} {C : rl_} {nc : Nat} (h : ok_ t C nc) {m : Nat} (hm : m < 4) : 1 ≤ so_ t C nc m := by
  rw [so_1 h m hm]
  unfold f1_
  omega
/-! rows of bits for the relation -/
def mk_ (C : rl_) (a : Nat) : Nat := (C a 0).toNat + 2 * (C a 1).toNat + 4 * (C a 2).toNat + 8 * (C a 3).toNat
theorem mk_lt (C : rl_) (a : Nat) : mk_ C a < 16 := by
  have h0 := bn_le (C a 0)
  have h1 := bn_le (C a 1)
  have h2 := bn_le (C a 2)
  have h3 := bn_le (C a 3)
  unfold mk_
  omega
theorem mk_tb (C : rl_) (a : Nat) {b : Nat} (hb : b < 4) : (mk_ C a).testBit b = C a b := by
  have h : b = 0 ∨ b = 1 ∨ b = 2 ∨ b = 3 := by omega
  unfold mk_
  rcases h with rfl | rfl | rfl | rfl <;> (generalize C a 0 = x0; generalize C a 1 = x1; generalize C a 2 = x2; generalize C a 3 = x3; cases x0 <;> cases x1 <;> cases x2 <;> cases x3 <;> decide)
theorem mk_of {C : rl_} {a g : Nat} (hg : g < 16) (h : ∀ b, b < 4 → g.testBit b = C a b) : g = mk_ C a := by
  apply Nat.eq_of_testBit_eq
  intro i
  by_cases hi : i < 4
  · rw [h i hi, mk_tb C a hi]
  · have e : 2 ^ 4 ≤ 2 ^ i := Nat.pow_le_pow_right (by decide) (by omega)
    rw [Nat.testBit_lt_two_pow (Nat.lt_of_lt_of_le hg e), Nat.testBit_lt_two_pow (Nat.lt_of_lt_of_le (mk_lt C a) e)]
/-- the class's relation: one call or more, as its rows of bits have it -/
def cr_ (t : sg) (nc : Nat) : rl_ := fun a b => (mk_ (wc_ (c0_ t nc)) a).testBit b
theorem cr_is {t : sg} {nc a b : Nat} (hb : b < 4) : cr_ t nc a b = wc_ (c0_ t nc) a b := mk_tb _ a hb
theorem cr_lt {t : sg} {nc a b : Nat} (h : cr_ t nc a b = true) : b < 4 := by
  refine Classical.byContradiction fun hb => ?_
  have e : 2 ^ 4 ≤ 2 ^ b := Nat.pow_le_pow_right (by decide) (by omega)
  unfold cr_ at h
  rw [Nat.testBit_lt_two_pow (Nat.lt_of_lt_of_le (mk_lt _ a) e)] at h
  cases h
theorem ok_cr {t : sg} (h1 : ∀ k, t 11 k < 4) (h2 : ∀ k, t 12 k < 4) (nc : Nat) : ok_ t (cr_ t nc) nc := by
  refine ⟨h1, h2, fun k hk => ?_, fun k hk a b ha hb => ?_⟩
  · rw [cr_is (h2 k)]; exact wc_up (c0_in hk)
  · have hb4 := cr_lt hb
    rw [cr_is hk] at ha
    rw [cr_is hb4] at hb ⊢
    exact wc_th _ k hk a b ha hb
def ww_ (C : rl_) : Nat → rl_
  | 0 => C
  | m + 1 => w1_ m (ww_ C m)
theorem w1_row (m : Nat) (C : rl_) (b : Nat) : w1_ m C m b = C m b := by
  unfold w1_
  cases C m b <;> cases C m m <;> rfl
theorem or_16 {a b : Nat} (ha : a < 16) (hb : b < 16) : a ||| b < 16 := Nat.or_lt_two_pow (n := 4) ha hb
/-- one call more -/
theorem c0_row {t : sg} {i a b : Nat} {g : Nat → Nat} (h2 : t 12 i < 4) (hb : b < 4) (hg : (g a).testBit b = c0_ t i a b) : (va_up g (t 11 i) (g (t 11 i) ||| 1 * 2 ^ t 12 i) a).testBit b = c0_ t (i + 1) a b := by
  show _ = (c0_ t i a b || (t 11 i == a && t 12 i == b))
  by_cases e : a = t 11 i
  · subst e
    rw [up_eq, Nat.testBit_or, hg, Nat.one_mul, Nat.testBit_two_pow, beq_self_eq_true, Bool.true_and]
    by_cases h : t 12 i = b
    · rw [decide_eq_true h, beq_iff_eq.mpr h]
    · have h3 : (t 12 i == b) = false := by rw [← Bool.not_eq_true, beq_iff_eq]; exact h
      rw [decide_eq_false h, h3]
  · rw [up_ne e, hg]
    have e2 : (t 11 i == a) = false := by rw [← Bool.not_eq_true, beq_iff_eq]; exact fun z => e z.symm
    rw [e2, Bool.false_and, Bool.or_false]
/-! diagrams: the nodes of a row of bits -/
def sa_ (f : Nat → Nat) (a b : Nat) : Nat → Bool
  | 0 => true
  | k + 1 => sa_ f a b k && (f (a + k) == f (b + k))
theorem sa_is {f : Nat → Nat} {a b : Nat} : ∀ {n : Nat}, sa_ f a b n = true ↔ ∀ k, k < n → f (a + k) = f (b + k)
  | 0 => ⟨fun _ k hk => by omega, fun _ => rfl⟩
  | n + 1 => by
    show (sa_ f a b n && (f (a + n) == f (b + n))) = true ↔ _
    rw [Bool.and_eq_true, sa_is (n := n), beq_iff_eq]
    constructor
    · intro h k hk
      by_cases e : k = n
      · subst e; exact h.2
      · exact h.1 k (by omega)
    · intro h
      exact ⟨fun k hk => h k (by omega), h n (by omega)⟩
def nb_ (f : Nat → Nat) (s i : Nat) : Nat → Bool
  | 0 => true
  | j + 1 => nb_ f s i j && !sa_ f (2 * s * i) (2 * s * j) (2 * s)
def ne_ (f : Nat → Nat) (s i : Nat) : Bool := !sa_ f (2 * s * i) (2 * s * i + s) s && nb_ f s i i
def ct_ (f : Nat → Nat) (s n : Nat) : Nat := sm_ (fun i => (ne_ f s i).toNat) n
theorem nb_is {f : Nat → Nat} {s i : Nat} : ∀ {n : Nat}, nb_ f s i n = true ↔ ∀ j, j < n → ¬ ∀ k, k < 2 * s → f (2 * s * i + k) = f (2 * s * j + k)
  | 0 => ⟨fun _ k hk => by omega, fun _ => rfl⟩
  | n + 1 => by
    show (nb_ f s i n && !sa_ f (2 * s * i) (2 * s * n) (2 * s)) = true ↔ _
    rw [Bool.and_eq_true, nb_is (n := n), Bool.not_eq_true', ← Bool.not_eq_true, sa_is]
    constructor
    · intro h j hj
      by_cases e : j = n
      · subst e; exact h.2
      · exact h.1 j (by omega)
    · intro h
      exact ⟨fun j hj => h j (by omega), h n (by omega)⟩
/-- names of the blocks of s places -/
def nm_ (f : Nat → Nat) (s n b : Nat) (F : Nat → Nat) : Prop := (∀ i j, i < n → j < n → (F i = F j ↔ ∀ k, k < s → f (s * i + k) = f (s * j + k))) ∧ ∀ i, i < n → F i < b
def nq_ (F : Nat → Nat) (i : Nat) : Nat → Bool
  | 0 => true
  | j + 1 => nq_ F i j && !(F (2 * i) == F (2 * j) && F (2 * i + 1) == F (2 * j + 1))
def np_ (F : Nat → Nat) (i : Nat) : Bool := !(F (2 * i) == F (2 * i + 1)) && nq_ F i i
theorem nq_is {F : Nat → Nat} {i : Nat} : ∀ {n : Nat}, nq_ F i n = true ↔ ∀ j, j < n → ¬ (F (2 * i) = F (2 * j) ∧ F (2 * i + 1) = F (2 * j + 1))
  | 0 => ⟨fun _ k hk => by omega, fun _ => rfl⟩
  | n + 1 => by
    show (nq_ F i n && !(F (2 * i) == F (2 * n) && F (2 * i + 1) == F (2 * n + 1))) = true ↔ _
    rw [Bool.and_eq_true, nq_is (n := n), Bool.not_eq_true', ← Bool.not_eq_true, Bool.and_eq_true, beq_iff_eq, beq_iff_eq]
    constructor
    · intro h j hj
      by_cases e : j = n
      · subst e; exact h.2
      · exact h.1 j (by omega)
    · intro h
      exact ⟨fun j hj => h j (by omega), h n (by omega)⟩
/-- the state of joining, i pairs done: the table has m nodes -/
def jn_ (F : Nat → Nat) (b i : Nat) (Z O : Nat → Nat) (m : Nat) (G : Nat → Nat) : Prop :=
  (∀ k, i ≤ k → G k = F k) ∧ (∀ x y, x < m → y < m → Z x = Z y → O x = O y → x = y) ∧ (∀ x, x < m → ∃ j, j < i ∧ F (2 * j) = Z x ∧ F (2 * j + 1) = O x) ∧
  (∀ j, j < i → F (2 * j) ≠ F (2 * j + 1) → ∃ x, x < m ∧ Z x = F (2 * j) ∧ O x = F (2 * j + 1) ∧ G j = b + x) ∧ (∀ j, j < i → F (2 * j) = F (2 * j + 1) → G j = F (2 * j)) ∧ m = sm_ (fun i => (np_ F i).toNat) i
theorem jn_m {F : Nat → Nat} {b i m : Nat} {Z O G : Nat → Nat} (h : jn_ F b i Z O m G) : m ≤ i := by
  have h1 := sm_cap (f := fun i => (np_ F i).toNat) (b := 1) i (fun k _ => bn_le _)
  rw [h.2.2.2.2.2]
  omega
theorem jn_0 {F Z O : Nat → Nat} {b : Nat} : jn_ F b 0 Z O 0 F := ⟨fun _ _ => rfl, fun x y hx => by omega, fun x hx => by omega, fun j hj => by omega, fun j hj => by omega, rfl⟩
theorem np_no {F : Nat → Nat} {i : Nat} (h : F (2 * i) = F (2 * i + 1) ∨ ∃ j, j < i ∧ F (2 * i) = F (2 * j) ∧ F (2 * i + 1) = F (2 * j + 1)) : np_ F i = false := by
  cases e : np_ F i with
  | false => rfl
  | true =>
    unfold np_ at e
    rw [Bool.and_eq_true, nq_is, Bool.not_eq_true', ← Bool.not_eq_true, beq_iff_eq] at e
    rcases h with h | ⟨j, hj, h1, h2⟩
    · exact absurd h e.1
    · exact absurd ⟨h1, h2⟩ (e.2 j hj)
theorem np_yes {F : Nat → Nat} {i : Nat} (h1 : F (2 * i) ≠ F (2 * i + 1)) (h2 : ∀ j, j < i → ¬ (F (2 * i) = F (2 * j) ∧ F (2 * i + 1) = F (2 * j + 1))) : np_ F i = true := by
  unfold np_
  rw [Bool.and_eq_true, nq_is, Bool.not_eq_true', ← Bool.not_eq_true, beq_iff_eq]
  exact ⟨h1, h2⟩
theorem jn_a {F : Nat → Nat} {b i m : Nat} {Z O G : Nat → Nat} (h : jn_ F b i Z O m G) (e : F (2 * i) = F (2 * i + 1)) : jn_ F b (i + 1) Z O m (va_up G i (F (2 * i))) := by
  obtain ⟨h1, h2, h3, h4, h5, h6⟩ := h
  refine ⟨fun k hk => ?_, h2, fun x hx => ?_, fun j hj hne => ?_, fun j hj he => ?_, ?_⟩
  · rw [up_ne (by omega)]; exact h1 k (by omega)
  · obtain ⟨j, hj, q⟩ := h3 x hx; exact ⟨j, by omega, q⟩
  · have hji : j ≠ i := fun z => hne (by rw [z]; exact e)
    rw [up_ne hji]; exact h4 j (by omega) hne
  · by_cases z : j = i
    · subst z; rw [up_eq]
    · rw [up_ne z]; exact h5 j (by omega) he
  · show m = sm_ (fun i => (np_ F i).toNat) i + (np_ F i).toNat
    rw [np_no (Or.inl e)]; exact h6
theorem jn_b {F : Nat → Nat} {b i m r : Nat} {Z O G : Nat → Nat} (h : jn_ F b i Z O m G) (e : F (2 * i) ≠ F (2 * i + 1)) (hr : r < m) (hZ : Z r = F (2 * i)) (hO : O r = F (2 * i + 1)) : jn_ F b (i + 1) Z O m (va_up G i (b + r)) := by
  obtain ⟨h1, h2, h3, h4, h5, h6⟩ := h
  refine ⟨fun k hk => ?_, h2, fun x hx => ?_, fun j hj hne => ?_, fun j hj he => ?_, ?_⟩
  · rw [up_ne (by omega)]; exact h1 k (by omega)
  · obtain ⟨j, hj, q⟩ := h3 x hx; exact ⟨j, by omega, q⟩
  · by_cases z : j = i
    · subst z; exact ⟨r, hr, hZ, hO, up_eq _ _ _⟩
    · rw [up_ne z]; exact h4 j (by omega) hne
  · have hji : j ≠ i := fun z => e (by rw [← z]; exact he)
    rw [up_ne hji]; exact h5 j (by omega) he
  · show m = sm_ (fun i => (np_ F i).toNat) i + (np_ F i).toNat
    obtain ⟨j, hj, q1, q2⟩ := h3 r hr
    rw [np_no (Or.inr ⟨j, hj, by rw [q1, hZ], by rw [q2, hO]⟩)]; exact h6
theorem jn_c {F : Nat → Nat} {b i m : Nat} {Z O G : Nat → Nat} (h : jn_ F b i Z O m G) (e : F (2 * i) ≠ F (2 * i + 1)) (hno : ∀ x, x < m → ¬ (Z x = F (2 * i) ∧ O x = F (2 * i + 1))) : jn_ F b (i + 1) (va_up Z m (F (2 * i))) (va_up O m (F (2 * i + 1))) (m + 1) (va_up G i (b + m)) := by
  obtain ⟨h1, h2, h3, h4, h5, h6⟩ := h
  refine ⟨fun k hk => ?_, fun x y hx hy ex ey => ?_, fun x hx => ?_, fun j hj hne => ?_, fun j hj he => ?_, ?_⟩
  · rw [up_ne (by omega)]; exact h1 k (by omega)
  · by_cases zx : x = m
    · by_cases zy : y = m
      · omega
      · subst zx
        rw [up_eq, up_ne zy] at ex ey
        exact absurd ⟨ex.symm, ey.symm⟩ (hno y (by omega))
    · by_cases zy : y = m
      · subst zy
        rw [up_eq, up_ne zx] at ex ey
        exact absurd ⟨ex, ey⟩ (hno x (by omega))
      · rw [up_ne zx, up_ne zy] at ex ey
        exact h2 x y (by omega) (by omega) ex ey
  · by_cases zx : x = m
    · subst zx; exact ⟨i, by omega, by rw [up_eq], by rw [up_eq]⟩
    · obtain ⟨j, hj, q⟩ := h3 x (by omega)
      rw [up_ne zx, up_ne zx]
      exact ⟨j, by omega, q⟩
  · by_cases z : j = i
    · subst z; exact ⟨m, by omega, up_eq _ _ _, up_eq _ _ _, up_eq _ _ _⟩
    · obtain ⟨x, hx, q1, q2, q3⟩ := h4 j (by omega) hne
      exact ⟨x, by omega, by rw [up_ne (by omega)]; exact q1, by rw [up_ne (by omega)]; exact q2, by rw [up_ne z]; exact q3⟩
  · have hji : j ≠ i := fun z => e (by rw [← z]; exact he)
    rw [up_ne hji]; exact h5 j (by omega) he
  · show m + 1 = sm_ (fun i => (np_ F i).toNat) i + (np_ F i).toNat
    rw [np_yes e (fun j hj q => ?_), ← h6]
    · rfl
    · have hne : F (2 * j) ≠ F (2 * j + 1) := by rw [← q.1, ← q.2]; exact e
      obtain ⟨x, hx, q1, q2, -⟩ := h4 j hj hne
      exact hno x hx ⟨by rw [q1, q.1], by rw [q2, q.2]⟩
/-- a block is its two halves -/
theorem bl_2 {f : Nat → Nat} {s i j : Nat} : (∀ k, k < 2 * s → f (2 * s * i + k) = f (2 * s * j + k)) ↔ (∀ k, k < s → f (s * (2 * i) + k) = f (s * (2 * j) + k)) ∧ ∀ k, k < s → f (s * (2 * i + 1) + k) = f (s * (2 * j + 1) + k) := by
  have e1 : ∀ a, s * (2 * a) = 2 * s * a := fun a => by rw [← Nat.mul_assoc, Nat.mul_comm s 2]
  have e2 : ∀ a, s * (2 * a + 1) = 2 * s * a + s := fun a => by rw [Nat.mul_add, e1, Nat.mul_one]
  constructor
  · intro h
    refine ⟨fun k hk => ?_, fun k hk => ?_⟩
    · rw [e1, e1]; exact h k (by omega)
    · rw [e2, e2, Nat.add_assoc, Nat.add_assoc]; exact h (s + k) (by omega)
  · intro h k hk
    by_cases q : k < s
    · have := h.1 k q; rw [e1, e1] at this; exact this
    · have := h.2 (k - s) (by omega)
      rw [e2, e2, Nat.add_assoc, Nat.add_assoc, show s + (k - s) = k by omega] at this
      exact this
theorem nm_pair {f : Nat → Nat} {s n b : Nat} {F : Nat → Nat} (h : nm_ f s (2 * n) b F) {i j : Nat} (hi : i < n) (hj : j < n) : (F (2 * i) = F (2 * j) ∧ F (2 * i + 1) = F (2 * j + 1)) ↔ ∀ k, k < 2 * s → f (2 * s * i + k) = f (2 * s * j + k) := by
  rw [bl_2, h.1 (2 * i) (2 * j) (by omega) (by omega), h.1 (2 * i + 1) (2 * j + 1) (by omega) (by omega)]
theorem np_ne {f : Nat → Nat} {s n b : Nat} {F : Nat → Nat} (h : nm_ f s (2 * n) b F) {i : Nat} (hi : i < n) : np_ F i = ne_ f s i := by
  have e1 : s * (2 * i) = 2 * s * i := by rw [← Nat.mul_assoc, Nat.mul_comm s 2]
  have e2 : s * (2 * i + 1) = 2 * s * i + s := by rw [Nat.mul_add, e1, Nat.mul_one]
  have h1 : (F (2 * i) == F (2 * i + 1)) = sa_ f (2 * s * i) (2 * s * i + s) s := by
    rw [Bool.eq_iff_iff, beq_iff_eq, sa_is, h.1 (2 * i) (2 * i + 1) (by omega) (by omega), e1, e2]
  have h2 : nq_ F i i = nb_ f s i i := by
    rw [Bool.eq_iff_iff, nq_is, nb_is]
    constructor
    · intro q j hj z; exact q j hj ((nm_pair h hi (by omega)).mpr z)
    · intro q j hj z; exact q j hj ((nm_pair h hi (by omega)).mp z)
  unfold np_ ne_
  rw [h1, h2]
theorem jn_end {f : Nat → Nat} {s n b m : Nat} {F Z O G : Nat → Nat} (h : nm_ f s (2 * n) b F) (hj : jn_ F b n Z O m G) : nm_ f (2 * s) n (b + m) G ∧ m = ct_ f s n := by
  obtain ⟨h1, h2, h3, h4, h5, h6⟩ := hj
  refine ⟨⟨fun i j hi hj => ?_, fun i hi => ?_⟩, ?_⟩
  · rw [← nm_pair h hi hj]
    by_cases ei : F (2 * i) = F (2 * i + 1)
    · rw [h5 i hi ei]
      by_cases ej : F (2 * j) = F (2 * j + 1)
      · rw [h5 j hj ej, ← ei, ← ej]
        exact ⟨fun q => ⟨q, q⟩, fun q => q.1⟩
      · obtain ⟨y, hy, q1, q2, q3⟩ := h4 j hj ej
        have hb := h.2 (2 * i) (by omega)
        constructor
        · intro q; rw [q3] at q; omega
        · intro q; exact absurd (by rw [← q.1, ← q.2]; exact ei) ej
    · obtain ⟨x, hx, p1, p2, p3⟩ := h4 i hi ei
      by_cases ej : F (2 * j) = F (2 * j + 1)
      · rw [h5 j hj ej]
        have hb := h.2 (2 * j) (by omega)
        constructor
        · intro q; rw [p3] at q; omega
        · intro q; exact absurd (by rw [q.1, q.2]; exact ej) ei
      · obtain ⟨y, hy, q1, q2, q3⟩ := h4 j hj ej
        rw [p3, q3, ← p1, ← p2, ← q1, ← q2]
        constructor
        · intro q
          have : x = y := by omega
          subst this
          exact ⟨rfl, rfl⟩
        · intro q
          rw [h2 x y hx hy q.1 q.2]
  · by_cases ei : F (2 * i) = F (2 * i + 1)
    · rw [h5 i hi ei]
      have hb := h.2 (2 * i) (by omega)
      omega
    · obtain ⟨x, hx, p1, p2, p3⟩ := h4 i hi ei
      rw [p3]
      omega
  · rw [h6]
    exact sm_eq n (fun k hk => by rw [np_ne h hk])
/-- all nodes: levels from the smallest blocks up; q bits in all -/
def lv2_ (f : Nat → Nat) (q : Nat) : Nat → Nat := sm_ (fun u => ct_ f (2 ^ u) (2 ^ (q - 1 - u)))
theorem ct_le (f : Nat → Nat) (s n : Nat) : ct_ f s n ≤ n := by
  have h1 := sm_cap (f := fun i => (ne_ f s i).toNat) (b := 1) n (fun k _ => bn_le _)
  unfold ct_
  omega
/-- the diagram's scratch cells -/
def jt_ (σ : sg) (Z O : Nat → Nat) (m : Nat) (G : Nat → Nat) : sg := ua (ua (ua (ua σ 25 G) 26 Z) 27 O) 4 (va_up (σ 4) 5 m)
theorem jt_jt (σ : sg) (Z O : Nat → Nat) (m : Nat) (G Z' O' : Nat → Nat) (m' : Nat) (G' : Nat → Nat) : jt_ (jt_ σ Z O m G) Z' O' m' G' = jt_ σ Z' O' m' G' := by
  funext b
  unfold jt_
  by_cases h4 : b = 4
  · subst h4
    rw [ua_eq, ua_eq]
    exact bx_uu _ _ _ _
  · rw [ua_ne h4, ua_ne h4]
    by_cases h27 : b = 27
    · subst h27; rw [ua_eq, ua_eq]
    · rw [ua_ne h27, ua_ne h27]
      by_cases h26 : b = 26
      · subst h26; rw [ua_eq, ua_eq]
      · rw [ua_ne h26, ua_ne h26]
        by_cases h25 : b = 25
        · subst h25; rw [ua_eq, ua_eq]
        · rw [ua_ne h25, ua_ne h25, ua_ne h4, ua_ne h27, ua_ne h26, ua_ne h25]
theorem jt_G (σ : sg) (Z O : Nat → Nat) (m : Nat) (G : Nat → Nat) (i x : Nat) : us (jt_ σ Z O m G) 25 i x = jt_ σ Z O m (va_up G i x) := by
  funext b
  unfold us
  by_cases h25 : b = 25
  · subst h25; rw [ua_eq]; rfl
  · rw [ua_ne h25]
    unfold jt_
    by_cases h4 : b = 4
    · subst h4; rw [ua_eq, ua_eq]
    · rw [ua_ne h4, ua_ne h4]
      by_cases h27 : b = 27
      · subst h27; rw [ua_eq, ua_eq]
      · rw [ua_ne h27, ua_ne h27]
        by_cases h26 : b = 26
        · subst h26; rw [ua_eq, ua_eq]
        · rw [ua_ne h26, ua_ne h26, ua_ne h25, ua_ne h25]
theorem jt_N (σ : sg) (Z O : Nat → Nat) (m : Nat) (G : Nat → Nat) (z o : Nat) : us (us (us (jt_ σ Z O m G) 26 m z) 27 m o) 4 5 (m + 1) = jt_ σ (va_up Z m z) (va_up O m o) (m + 1) G := by
  funext b
  unfold us
  by_cases h4 : b = 4
  · subst h4
    rw [ua_eq]
    show va_up (va_up (σ 4) 5 m) 5 (m + 1) = va_up (σ 4) 5 (m + 1)
    exact bx_uu _ _ _ _
  · rw [ua_ne h4]
    by_cases h27 : b = 27
    · subst h27; rw [ua_eq]; rfl
    · rw [ua_ne h27]
      by_cases h26 : b = 26
      · subst h26; rw [ua_eq]; rfl
      · rw [ua_ne h26]
        unfold jt_
        rw [ua_ne h4, ua_ne h4, ua_ne h27, ua_ne h27, ua_ne h26, ua_ne h26]
theorem jt_0 (σ : sg) : us σ 4 5 0 = jt_ σ (σ 26) (σ 27) 0 (σ 25) := by
  funext b
  unfold us jt_
  by_cases h4 : b = 4
  · subst h4; rw [ua_eq, ua_eq]
  · rw [ua_ne h4, ua_ne h4]
    by_cases h27 : b = 27
    · subst h27; rw [ua_eq]
    · rw [ua_ne h27]
      by_cases h26 : b = 26
      · subst h26; rw [ua_eq]
      · rw [ua_ne h26]
        by_cases h25 : b = 25
        · subst h25; rw [ua_eq]
        · rw [ua_ne h25]
theorem jt_id (σ : sg) : σ = jt_ σ (σ 26) (σ 27) (σ 4 5) (σ 25) := by
  rw [← jt_jt σ (σ 26) (σ 27) (σ 4 5) (σ 25)]
  funext b
  unfold jt_
  by_cases h4 : b = 4
  · subst h4; rw [ua_eq, ua_eq]; show σ 4 = va_up (va_up (σ 4) 5 (σ 4 5)) 5 (σ 4 5); rw [up_id, up_id]
  · rw [ua_ne h4]
    by_cases h27 : b = 27
    · subst h27; rw [ua_eq]
    · rw [ua_ne h27]
      by_cases h26 : b = 26
      · subst h26; rw [ua_eq]
      · rw [ua_ne h26]
        by_cases h25 : b = 25
        · subst h25; rw [ua_eq]
        · rw [ua_ne h25, ua_ne h4, ua_ne h27, ua_ne h26, ua_ne h25]
theorem p2_half {q t : Nat} (h : t < q) : 2 ^ (q - t) / 2 = 2 ^ (q - 1 - t) := by
  have e : q - t = (q - 1 - t) + 1 := by omega
  rw [e, Nat.pow_succ, Nat.mul_div_cancel _ (by decide)]
theorem p2_dbl {q t : Nat} (h : t < q) : 2 * 2 ^ (q - 1 - t) = 2 ^ (q - t) := by
  have e : q - t = (q - 1 - t) + 1 := by omega
  rw [e, Nat.pow_succ, Nat.mul_comm]
theorem lv2_le (f : Nat → Nat) (q : Nat) : ∀ t, t ≤ q → lv2_ f q t + 2 ^ (q - t) ≤ 2 ^ q
  | 0, _ => by show 0 + 2 ^ q ≤ 2 ^ q; omega
  | t + 1, h => by
    have ih := lv2_le f q t (by omega)
    have h1 := ct_le f (2 ^ t) (2 ^ (q - 1 - t))
    have h2 := p2_dbl (q := q) (t := t) (by omega)
    have h3 : q - (t + 1) = q - 1 - t := by omega
    show lv2_ f q t + ct_ f (2 ^ t) (2 ^ (q - 1 - t)) + 2 ^ (q - (t + 1)) ≤ 2 ^ q
    rw [h3]
    omega
/-! the class's relations in their cells -/
def rg_ (σ : sg) : rs_ := (σ 21, σ 22, σ 3 3)
def sr_ (σ : sg) (r : rs_) : sg := ua (ua (ua σ 21 r.1) 22 r.2.1) 3 (va_up (σ 3) 3 r.2.2)
theorem sr_sr (σ : sg) (r r' : rs_) : sr_ (sr_ σ r) r' = sr_ σ r' := by
  funext b
  unfold sr_
  by_cases h3 : b = 3
  · subst h3
    rw [ua_eq, ua_eq]
    show va_up (va_up (σ 3) 3 r.2.2) 3 r'.2.2 = va_up (σ 3) 3 r'.2.2
    exact bx_uu _ _ _ _
  · rw [ua_ne h3, ua_ne h3]
    by_cases h22 : b = 22
    · subst h22; rw [ua_eq, ua_eq]
    · rw [ua_ne h22, ua_ne h22]
      by_cases h21 : b = 21
      · subst h21; rw [ua_eq, ua_eq]
      · rw [ua_ne h21, ua_ne h21, ua_ne h3, ua_ne h22, ua_ne h21]
theorem sr_rg (σ : sg) : sr_ σ (rg_ σ) = σ := by
  funext b
  unfold sr_ rg_
  by_cases h3 : b = 3
  · subst h3; rw [ua_eq]; exact up_id _ _
  · rw [ua_ne h3]
    by_cases h22 : b = 22
    · subst h22; rw [ua_eq]
    · rw [ua_ne h22]
      by_cases h21 : b = 21
      · subst h21; rw [ua_eq]
      · rw [ua_ne h21]
theorem rg_sr (σ : sg) (r : rs_) : rg_ (sr_ σ r) = r := rfl
/-- addTo, on points -/
theorem at_21 (σ : sg) (i y : Nat) : (if σ 21 i ||| y = σ 21 i then σ else us (us σ 21 i (σ 21 i ||| y)) 3 3 1) = sr_ σ (va_up (σ 21) i (σ 21 i ||| y), σ 22, if σ 21 i ||| y = σ 21 i then σ 3 3 else 1) := by
  by_cases e : σ 21 i ||| y = σ 21 i
  · rw [if_pos e, if_pos e, e, up_id]; exact (sr_rg σ).symm
  · rw [if_neg e, if_neg e]
    funext b
    unfold sr_ us
    by_cases h3 : b = 3
    · subst h3; rw [ua_eq, ua_eq]; rfl
    · rw [ua_ne h3, ua_ne h3]
      by_cases h22 : b = 22
      · subst h22; rw [ua_eq]; rfl
      · rw [ua_ne h22]
theorem at_22 (σ : sg) (i y : Nat) : (if σ 22 i ||| y = σ 22 i then σ else us (us σ 22 i (σ 22 i ||| y)) 3 3 1) = sr_ σ (σ 21, va_up (σ 22) i (σ 22 i ||| y), if σ 22 i ||| y = σ 22 i then σ 3 3 else 1) := by
  by_cases e : σ 22 i ||| y = σ 22 i
  · rw [if_pos e, if_pos e, e, up_id]; exact (sr_rg σ).symm
  · rw [if_neg e, if_neg e]
    funext b
    unfold sr_ us
    by_cases h3 : b = 3
    · subst h3; rw [ua_eq, ua_eq]; rfl
    · rw [ua_ne h3, ua_ne h3]
      by_cases h22 : b = 22
      · subst h22; rw [ua_eq, ua_eq]
      · rw [ua_ne h22, ua_ne h22]
        by_cases h21 : b = 21
        · subst h21; rw [ua_eq]
        · rw [ua_ne h21]
theorem hs_B {set f x : Nat} (hx : x < 256) : ∀ n s, B_ s → B_ (hs_ set f x n s)
  | 0, s, hs => hs
  | n + 1, s, hs => by
    have ih := hs_B (set := set) (f := f) hx n s hs
    show B_ (if set.testBit n = true then h1_ f x n (hs_ set f x n s) else hs_ set f x n s)
    by_cases e : set.testBit n = true
    · rw [if_pos e]; exact ⟨ih.1, up_256 ih.2 (or_256 (ih.2 _) hx)⟩
    · rw [if_neg e]; exact ih
theorem ad_B {w : Nat → Nat} {c v x : Nat} {s : rs_} (hw : ∀ k, w k < 256) (hs : B_ s) : B_ (ad_ w c v x s) := ⟨up_256 hs.1 (or_256 (hs.1 _) (and_256 (hw v))), hs.2⟩
theorem ha_B {hl : Nat → Nat} {set f : Nat} (h : ∀ k, hl k < 256) : ∀ n, ha_ hl set f n < 256
  | 0 => by show 0 < 256; decide
  | n + 1 => by
    show ha_ hl set f n ||| (if set.testBit n = true then hl (n * 2 + f) else 0) < 256
    refine or_256 (ha_B h n) ?_
    by_cases e : set.testBit n = true
    · rw [if_pos e]; exact h _
    · rw [if_neg e]; decide
/-- whom a variable accepts -/
def fw_ (t : sg) (v : Nat) : Nat → Nat
  | 0 => 0
  | h + 1 => fw_ t v h ||| (if (t 6 v).testBit (t 5 h) = true then 1 * 2 ^ h else 0)
theorem fw_lt (t : sg) (v : Nat) : ∀ n, n ≤ 8 → fw_ t v n < 256
  | 0, _ => by show 0 < 256; decide
  | n + 1, hn => by
    refine or_256 (fw_lt t v n (by omega)) ?_
    by_cases e : (t 6 v).testBit (t 5 n) = true
    · rw [if_pos e, Nat.one_mul]
      exact Nat.pow_lt_pow_right (by decide) (by omega : n < 8)
    · rw [if_neg e]; decide
def ft_ (t : sg) (v : Nat) : Nat := fw_ t v 8
theorem ft_lt (t : sg) (v : Nat) : ft_ t v < 256 := fw_lt t v 8 (by omega)
theorem it_B {f : Nat → rs_ → rs_} (h : ∀ k s, B_ s → B_ (f k s)) : ∀ n s, B_ s → B_ (it_ f n s)
  | 0, _, hs => hs
  | n + 1, s, hs => h n _ (it_B h n s hs)
theorem sx_B {t : sg} {w : Nat → Nat} {k c : Nat} {s : rs_} (hw : ∀ k, w k < 256) (hs : B_ s) : B_ (sx_ t w k c s) := by
  unfold sx_
  by_cases e0 : t 7 k = 0
  · rw [if_pos e0]; exact ad_B hw hs
  · rw [if_neg e0]
    by_cases e1 : t 7 k = 1
    · rw [if_pos e1]; exact ad_B hw hs
    · rw [if_neg e1]
      by_cases e2 : t 7 k = 2
      · rw [if_pos e2]; exact hs_B (hs.1 _) 8 s hs
      · rw [if_neg e2]; exact ad_B hw hs
theorem ss_B {t : sg} {w mn : Nat → Nat} {n : Nat} {s : rs_} (hw : ∀ k, w k < 256) (hs : B_ s) : B_ (ss_ t w mn n s) := it_B (fun _ s hs => it_B (fun _ s hs => sx_B hw hs) _ s hs) n s hs
theorem pa_B {t : sg} {w : Nat → Nat} {c d q : Nat} {s : rs_} (hw : ∀ k, w k < 256) (hs : B_ s) : B_ (pa_ t w c d q s) := by
  unfold pa_
  by_cases e : t 16 q = 0
  · rw [if_pos e]; exact ad_B hw hs
  · rw [if_neg e]; exact ad_B hw hs
theorem pp_B {t : sg} {w : Nat → Nat} {k c d n : Nat} {s : rs_} (hw : ∀ k, w k < 256) (hs : B_ s) : B_ (pp_ t w k c d n s) := it_B (fun _ s hs => pa_B hw hs) n s hs
theorem cs_B {t : sg} {w mn bs : Nat → Nat} {n : Nat} {s : rs_} (hw : ∀ k, w k < 256) (hs : B_ s) : B_ (cs_ t w mn bs n s) := it_B (fun _ s hs => it_B (fun _ s hs => pp_B hw hs) _ s hs) n s hs
end
section
section RW
variable {own : String} {p : Program} {l : Launch} {e : Env} {R : Room} {s : State} {m : MethodId} {args : Array Value} {below : List Frame} {meth : Method} {c : Code} {Q : State → Prop} {X : wX} {nL : Nat} {L : List (Nat × Value)} {σ : sg} {pc : Nat} {st : List Value} {cc : ByteArray}
theorem bic_m2 : (Int8.ofInt (-2)).toInt32 = -2 := by decide
theorem bic_6 : (Int8.ofInt (6)).toInt32 = nI 6 := by decide
theorem bic_7 : (Int8.ofInt (7)).toInt32 = nI 7 := by decide
theorem bic_8 : (Int8.ofInt (8)).toInt32 = nI 8 := by decide
theorem bic_15 : (Int8.ofInt (15)).toInt32 = nI 15 := by decide
theorem bic_16 : (Int8.ofInt (16)).toInt32 = nI 16 := by decide
theorem bic_40 : (Int8.ofInt (40)).toInt32 = nI 40 := by decide
theorem ic_m1 : Int32.ofInt (-1) = -1 := by decide
theorem ic_0 : Int32.ofInt (0) = nI 0 := by decide
theorem ic_1 : Int32.ofInt (1) = nI 1 := by decide
theorem ic_2 : Int32.ofInt (2) = nI 2 := by decide
theorem ic_3 : Int32.ofInt (3) = nI 3 := by decide
theorem ic_4 : Int32.ofInt (4) = nI 4 := by decide
theorem ic_5 : Int32.ofInt (5) = nI 5 := by decide
theorem ld_5 (F : fx_ p s m args c cc nL own X) {i : Nat} (hi : i < 8) (hd : decode cc pc = .ok (.iaload, 1)) (k : vv_ p l e R s m args below meth c Q X nL L σ (pc + 1) (.int (nI (σ 5 i)) :: st)) : vv_ p l e R s m args below meth c Q X nL L σ pc (.int (nI i) :: .ref (adr X 5) :: st) := qv_iald F 5 rfl hi (by decide) hd k
theorem sv_5 (F : fx_ p s m args c cc nL own X) {i x : Nat} (hi : i < 8) (hd : decode cc pc = .ok (.iastore, 1)) (k : vv_ p l e R s m args below meth c Q X nL L (us σ 5 i x) (pc + 1) st) : vv_ p l e R s m args below meth c Q X nL L σ pc (.int (nI x) :: .int (nI i) :: .ref (adr X 5) :: st) := qv_iast F 5 rfl hi (by decide) hd k
theorem ld_6 (F : fx_ p s m args c cc nL own X) {i : Nat} (hi : i < 16) (hd : decode cc pc = .ok (.iaload, 1)) (k : vv_ p l e R s m args below meth c Q X nL L σ (pc + 1) (.int (nI (σ 6 i)) :: st)) : vv_ p l e R s m args below meth c Q X nL L σ pc (.int (nI i) :: .ref (adr X 6) :: st) := qv_iald F 6 rfl hi (by decide) hd k
theorem sv_6 (F : fx_ p s m args c cc nL own X) {i x : Nat} (hi : i < 16) (hd : decode cc pc = .ok (.iastore, 1)) (k : vv_ p l e R s m args below meth c Q X nL L (us σ 6 i x) (pc + 1) st) : vv_ p l e R s m args below meth c Q X nL L σ pc (.int (nI x) :: .int (nI i) :: .ref (adr X 6) :: st) := qv_iast F 6 rfl hi (by decide) hd k
theorem ld_7 (F : fx_ p s m args c cc nL own X) {i : Nat} (hi : i < 40) (hd : decode cc pc = .ok (.iaload, 1)) (k : vv_ p l e R s m args below meth c Q X nL L σ (pc + 1) (.int (nI (σ 7 i)) :: st)) : vv_ p l e R s m args below meth c Q X nL L σ pc (.int (nI i) :: .ref (adr X 7) :: st) := qv_iald F 7 rfl hi (by decide) hd k
theorem sv_7 (F : fx_ p s m args c cc nL own X) {i x : Nat} (hi : i < 40) (hd : decode cc pc = .ok (.iastore, 1)) (k : vv_ p l e R s m args below meth c Q X nL L (us σ 7 i x) (pc + 1) st) : vv_ p l e R s m args below meth c Q X nL L σ pc (.int (nI x) :: .int (nI i) :: .ref (adr X 7) :: st) := qv_iast F 7 rfl hi (by decide) hd k
theorem ld_8 (F : fx_ p s m args c cc nL own X) {i : Nat} (hi : i < 40) (hd : decode cc pc = .ok (.iaload, 1)) (k : vv_ p l e R s m args below meth c Q X nL L σ (pc + 1) (.int (nI (σ 8 i)) :: st)) : vv_ p l e R s m args below meth c Q X nL L σ pc (.int (nI i) :: .ref (adr X 8) :: st) := qv_iald F 8 rfl hi (by decide) hd k
theorem sv_8 (F : fx_ p s m args c cc nL own X) {i x : Nat} (hi : i < 40) (hd : decode cc pc = .ok (.iastore, 1)) (k : vv_ p l e R s m args below meth c Q X nL L (us σ 8 i x) (pc + 1) st) : vv_ p l e R s m args below meth c Q X nL L σ pc (.int (nI x) :: .int (nI i) :: .ref (adr X 8) :: st) := qv_iast F 8 rfl hi (by decide) hd k
theorem ld_9 (F : fx_ p s m args c cc nL own X) {i : Nat} (hi : i < 40) (hd : decode cc pc = .ok (.iaload, 1)) (k : vv_ p l e R s m args below meth c Q X nL L σ (pc + 1) (.int (nI (σ 9 i)) :: st)) : vv_ p l e R s m args below meth c Q X nL L σ pc (.int (nI i) :: .ref (adr X 9) :: st) := qv_iald F 9 rfl hi (by decide) hd k
theorem sv_9 (F : fx_ p s m args c cc nL own X) {i x : Nat} (hi : i < 40) (hd : decode cc pc = .ok (.iastore, 1)) (k : vv_ p l e R s m args below meth c Q X nL L (us σ 9 i x) (pc + 1) st) : vv_ p l e R s m args below meth c Q X nL L σ pc (.int (nI x) :: .int (nI i) :: .ref (adr X 9) :: st) := qv_iast F 9 rfl hi (by decide) hd k
theorem ld_10 (F : fx_ p s m args c cc nL own X) {i : Nat} (hi : i < 40) (hd : decode cc pc = .ok (.iaload, 1)) (k : vv_ p l e R s m args below meth c Q X nL L σ (pc + 1) (.int (nI (σ 10 i)) :: st)) : vv_ p l e R s m args below meth c Q X nL L σ pc (.int (nI i) :: .ref (adr X 10) :: st) := qv_iald F 10 rfl hi (by decide) hd k
theorem sv_10 (F : fx_ p s m args c cc nL own X) {i x : Nat} (hi : i < 40) (hd : decode cc pc = .ok (.iastore, 1)) (k : vv_ p l e R s m args below meth c Q X nL L (us σ 10 i x) (pc + 1) st) : vv_ p l e R s m args below meth c Q X nL L σ pc (.int (nI x) :: .int (nI i) :: .ref (adr X 10) :: st) := qv_iast F 10 rfl hi (by decide) hd k
theorem ld_11 (F : fx_ p s m args c cc nL own X) {i : Nat} (hi : i < 8) (hd : decode cc pc = .ok (.iaload, 1)) (k : vv_ p l e R s m args below meth c Q X nL L σ (pc + 1) (.int (nI (σ 11 i)) :: st)) : vv_ p l e R s m args below meth c Q X nL L σ pc (.int (nI i) :: .ref (adr X 11) :: st) := qv_iald F 11 rfl hi (by decide) hd k
theorem sv_11 (F : fx_ p s m args c cc nL own X) {i x : Nat} (hi : i < 8) (hd : decode cc pc = .ok (.iastore, 1)) (k : vv_ p l e R s m args below meth c Q X nL L (us σ 11 i x) (pc + 1) st) : vv_ p l e R s m args below meth c Q X nL L σ pc (.int (nI x) :: .int (nI i) :: .ref (adr X 11) :: st) := qv_iast F 11 rfl hi (by decide) hd k
theorem ld_12 (F : fx_ p s m args c cc nL own X) {i : Nat} (hi : i < 8) (hd : decode cc pc = .ok (.iaload, 1)) (k : vv_ p l e R s m args below meth c Q X nL L σ (pc + 1) (.int (nI (σ 12 i)) :: st)) : vv_ p l e R s m args below meth c Q X nL L σ pc (.int (nI i) :: .ref (adr X 12) :: st) := qv_iald F 12 rfl hi (by decide) hd k
theorem sv_12 (F : fx_ p s m args c cc nL own X) {i x : Nat} (hi : i < 8) (hd : decode cc pc = .ok (.iastore, 1)) (k : vv_ p l e R s m args below meth c Q X nL L (us σ 12 i x) (pc + 1) st) : vv_ p l e R s m args below meth c Q X nL L σ pc (.int (nI x) :: .int (nI i) :: .ref (adr X 12) :: st) := qv_iast F 12 rfl hi (by decide) hd k
theorem ld_13 (F : fx_ p s m args c cc nL own X) {i : Nat} (hi : i < 8) (hd : decode cc pc = .ok (.iaload, 1)) (k : vv_ p l e R s m args below meth c Q X nL L σ (pc + 1) (.int (nI (σ 13 i)) :: st)) : vv_ p l e R s m args below meth c Q X nL L σ pc (.int (nI i) :: .ref (adr X 13) :: st) := qv_iald F 13 rfl hi (by decide) hd k
theorem sv_13 (F : fx_ p s m args c cc nL own X) {i x : Nat} (hi : i < 8) (hd : decode cc pc = .ok (.iastore, 1)) (k : vv_ p l e R s m args below meth c Q X nL L (us σ 13 i x) (pc + 1) st) : vv_ p l e R s m args below meth c Q X nL L σ pc (.int (nI x) :: .int (nI i) :: .ref (adr X 13) :: st) := qv_iast F 13 rfl hi (by decide) hd k
theorem ld_14 (F : fx_ p s m args c cc nL own X) {i : Nat} (hi : i < 32) (hd : decode cc pc = .ok (.iaload, 1)) (k : vv_ p l e R s m args below meth c Q X nL L σ (pc + 1) (.int (nI (σ 14 i)) :: st)) : vv_ p l e R s m args below meth c Q X nL L σ pc (.int (nI i) :: .ref (adr X 14) :: st) := qv_iald F 14 rfl hi (by decide) hd k
theorem sv_14 (F : fx_ p s m args c cc nL own X) {i x : Nat} (hi : i < 32) (hd : decode cc pc = .ok (.iastore, 1)) (k : vv_ p l e R s m args below meth c Q X nL L (us σ 14 i x) (pc + 1) st) : vv_ p l e R s m args below meth c Q X nL L σ pc (.int (nI x) :: .int (nI i) :: .ref (adr X 14) :: st) := qv_iast F 14 rfl hi (by decide) hd k
theorem ld_15 (F : fx_ p s m args c cc nL own X) {i : Nat} (hi : i < 32) (hd : decode cc pc = .ok (.iaload, 1)) (k : vv_ p l e R s m args below meth c Q X nL L σ (pc + 1) (.int (nI (σ 15 i)) :: st)) : vv_ p l e R s m args below meth c Q X nL L σ pc (.int (nI i) :: .ref (adr X 15) :: st) := qv_iald F 15 rfl hi (by decide) hd k
theorem sv_15 (F : fx_ p s m args c cc nL own X) {i x : Nat} (hi : i < 32) (hd : decode cc pc = .ok (.iastore, 1)) (k : vv_ p l e R s m args below meth c Q X nL L (us σ 15 i x) (pc + 1) st) : vv_ p l e R s m args below meth c Q X nL L σ pc (.int (nI x) :: .int (nI i) :: .ref (adr X 15) :: st) := qv_iast F 15 rfl hi (by decide) hd k
theorem ld_16 (F : fx_ p s m args c cc nL own X) {i : Nat} (hi : i < 32) (hd : decode cc pc = .ok (.baload, 1)) (k : vv_ p l e R s m args below meth c Q X nL L σ (pc + 1) (.int (nI (σ 16 i)) :: st)) : vv_ p l e R s m args below meth c Q X nL L σ pc (.int (nI i) :: .ref (adr X 16) :: st) := qv_zald F 16 rfl hi (by decide) hd k
theorem sv_16 (F : fx_ p s m args c cc nL own X) {i x : Nat} (hi : i < 32) (hx : x = 0 ∨ x = 1) (hd : decode cc pc = .ok (.bastore, 1)) (k : vv_ p l e R s m args below meth c Q X nL L (us σ 16 i x) (pc + 1) st) : vv_ p l e R s m args below meth c Q X nL L σ pc (.int (nI x) :: .int (nI i) :: .ref (adr X 16) :: st) := qv_zast F 16 rfl hi (by decide) hx hd k
theorem ld_17 (F : fx_ p s m args c cc nL own X) {i : Nat} (hi : i < 4) (hd : decode cc pc = .ok (.iaload, 1)) (k : vv_ p l e R s m args below meth c Q X nL L σ (pc + 1) (.int (nI (σ 17 i)) :: st)) : vv_ p l e R s m args below meth c Q X nL L σ pc (.int (nI i) :: .ref (adr X 17) :: st) := qv_iald F 17 rfl hi (by decide) hd k
theorem sv_17 (F : fx_ p s m args c cc nL own X) {i x : Nat} (hi : i < 4) (hd : decode cc pc = .ok (.iastore, 1)) (k : vv_ p l e R s m args below meth c Q X nL L (us σ 17 i x) (pc + 1) st) : vv_ p l e R s m args below meth c Q X nL L σ pc (.int (nI x) :: .int (nI i) :: .ref (adr X 17) :: st) := qv_iast F 17 rfl hi (by decide) hd k
theorem ld_18 (F : fx_ p s m args c cc nL own X) {i : Nat} (hi : i < 8) (hd : decode cc pc = .ok (.iaload, 1)) (k : vv_ p l e R s m args below meth c Q X nL L σ (pc + 1) (.int (nI (σ 18 i)) :: st)) : vv_ p l e R s m args below meth c Q X nL L σ pc (.int (nI i) :: .ref (adr X 18) :: st) := qv_iald F 18 rfl hi (by decide) hd k
theorem sv_18 (F : fx_ p s m args c cc nL own X) {i x : Nat} (hi : i < 8) (hd : decode cc pc = .ok (.iastore, 1)) (k : vv_ p l e R s m args below meth c Q X nL L (us σ 18 i x) (pc + 1) st) : vv_ p l e R s m args below meth c Q X nL L σ pc (.int (nI x) :: .int (nI i) :: .ref (adr X 18) :: st) := qv_iast F 18 rfl hi (by decide) hd k
theorem ld_19 (F : fx_ p s m args c cc nL own X) {i : Nat} (hi : i < 4) (hd : decode cc pc = .ok (.iaload, 1)) (k : vv_ p l e R s m args below meth c Q X nL L σ (pc + 1) (.int (nI (σ 19 i)) :: st)) : vv_ p l e R s m args below meth c Q X nL L σ pc (.int (nI i) :: .ref (adr X 19) :: st) := qv_iald F 19 rfl hi (by decide) hd k
theorem sv_19 (F : fx_ p s m args c cc nL own X) {i x : Nat} (hi : i < 4) (hd : decode cc pc = .ok (.iastore, 1)) (k : vv_ p l e R s m args below meth c Q X nL L (us σ 19 i x) (pc + 1) st) : vv_ p l e R s m args below meth c Q X nL L σ pc (.int (nI x) :: .int (nI i) :: .ref (adr X 19) :: st) := qv_iast F 19 rfl hi (by decide) hd k
theorem ld_20 (F : fx_ p s m args c cc nL own X) {i : Nat} (hi : i < 4) (hd : decode cc pc = .ok (.iaload, 1)) (k : vv_ p l e R s m args below meth c Q X nL L σ (pc + 1) (.int (nI (σ 20 i)) :: st)) : vv_ p l e R s m args below meth c Q X nL L σ pc (.int (nI i) :: .ref (adr X 20) :: st) := qv_iald F 20 rfl hi (by decide) hd k
theorem sv_20 (F : fx_ p s m args c cc nL own X) {i x : Nat} (hi : i < 4) (hd : decode cc pc = .ok (.iastore, 1)) (k : vv_ p l e R s m args below meth c Q X nL L (us σ 20 i x) (pc + 1) st) : vv_ p l e R s m args below meth c Q X nL L σ pc (.int (nI x) :: .int (nI i) :: .ref (adr X 20) :: st) := qv_iast F 20 rfl hi (by decide) hd k
theorem ld_21 (F : fx_ p s m args c cc nL own X) {i : Nat} (hi : i < 128) (hd : decode cc pc = .ok (.iaload, 1)) (k : vv_ p l e R s m args below meth c Q X nL L σ (pc + 1) (.int (nI (σ 21 i)) :: st)) : vv_ p l e R s m args below meth c Q X nL L σ pc (.int (nI i) :: .ref (adr X 21) :: st) := qv_iald F 21 rfl hi (by decide) hd k
theorem sv_21 (F : fx_ p s m args c cc nL own X) {i x : Nat} (hi : i < 128) (hd : decode cc pc = .ok (.iastore, 1)) (k : vv_ p l e R s m args below meth c Q X nL L (us σ 21 i x) (pc + 1) st) : vv_ p l e R s m args below meth c Q X nL L σ pc (.int (nI x) :: .int (nI i) :: .ref (adr X 21) :: st) := qv_iast F 21 rfl hi (by decide) hd k
theorem ld_22 (F : fx_ p s m args c cc nL own X) {i : Nat} (hi : i < 16) (hd : decode cc pc = .ok (.iaload, 1)) (k : vv_ p l e R s m args below meth c Q X nL L σ (pc + 1) (.int (nI (σ 22 i)) :: st)) : vv_ p l e R s m args below meth c Q X nL L σ pc (.int (nI i) :: .ref (adr X 22) :: st) := qv_iald F 22 rfl hi (by decide) hd k
theorem sv_22 (F : fx_ p s m args c cc nL own X) {i x : Nat} (hi : i < 16) (hd : decode cc pc = .ok (.iastore, 1)) (k : vv_ p l e R s m args below meth c Q X nL L (us σ 22 i x) (pc + 1) st) : vv_ p l e R s m args below meth c Q X nL L σ pc (.int (nI x) :: .int (nI i) :: .ref (adr X 22) :: st) := qv_iast F 22 rfl hi (by decide) hd k
theorem ld_23 (F : fx_ p s m args c cc nL own X) {i : Nat} (hi : i < 16) (hd : decode cc pc = .ok (.iaload, 1)) (k : vv_ p l e R s m args below meth c Q X nL L σ (pc + 1) (.int (nI (σ 23 i)) :: st)) : vv_ p l e R s m args below meth c Q X nL L σ pc (.int (nI i) :: .ref (adr X 23) :: st) := qv_iald F 23 rfl hi (by decide) hd k
theorem sv_23 (F : fx_ p s m args c cc nL own X) {i x : Nat} (hi : i < 16) (hd : decode cc pc = .ok (.iastore, 1)) (k : vv_ p l e R s m args below meth c Q X nL L (us σ 23 i x) (pc + 1) st) : vv_ p l e R s m args below meth c Q X nL L σ pc (.int (nI x) :: .int (nI i) :: .ref (adr X 23) :: st) := qv_iast F 23 rfl hi (by decide) hd k
theorem ld_25 (F : fx_ p s m args c cc nL own X) {i : Nat} (hi : i < 1024) (hd : decode cc pc = .ok (.iaload, 1)) (k : vv_ p l e R s m args below meth c Q X nL L σ (pc + 1) (.int (nI (σ 25 i)) :: st)) : vv_ p l e R s m args below meth c Q X nL L σ pc (.int (nI i) :: .ref (adr X 25) :: st) := qv_iald F 25 rfl hi (by decide) hd k
theorem sv_25 (F : fx_ p s m args c cc nL own X) {i x : Nat} (hi : i < 1024) (hd : decode cc pc = .ok (.iastore, 1)) (k : vv_ p l e R s m args below meth c Q X nL L (us σ 25 i x) (pc + 1) st) : vv_ p l e R s m args below meth c Q X nL L σ pc (.int (nI x) :: .int (nI i) :: .ref (adr X 25) :: st) := qv_iast F 25 rfl hi (by decide) hd k
theorem ld_26 (F : fx_ p s m args c cc nL own X) {i : Nat} (hi : i < 512) (hd : decode cc pc = .ok (.iaload, 1)) (k : vv_ p l e R s m args below meth c Q X nL L σ (pc + 1) (.int (nI (σ 26 i)) :: st)) : vv_ p l e R s m args below meth c Q X nL L σ pc (.int (nI i) :: .ref (adr X 26) :: st) := qv_iald F 26 rfl hi (by decide) hd k
theorem sv_26 (F : fx_ p s m args c cc nL own X) {i x : Nat} (hi : i < 512) (hd : decode cc pc = .ok (.iastore, 1)) (k : vv_ p l e R s m args below meth c Q X nL L (us σ 26 i x) (pc + 1) st) : vv_ p l e R s m args below meth c Q X nL L σ pc (.int (nI x) :: .int (nI i) :: .ref (adr X 26) :: st) := qv_iast F 26 rfl hi (by decide) hd k
theorem ld_27 (F : fx_ p s m args c cc nL own X) {i : Nat} (hi : i < 512) (hd : decode cc pc = .ok (.iaload, 1)) (k : vv_ p l e R s m args below meth c Q X nL L σ (pc + 1) (.int (nI (σ 27 i)) :: st)) : vv_ p l e R s m args below meth c Q X nL L σ pc (.int (nI i) :: .ref (adr X 27) :: st) := qv_iald F 27 rfl hi (by decide) hd k
theorem sv_27 (F : fx_ p s m args c cc nL own X) {i x : Nat} (hi : i < 512) (hd : decode cc pc = .ok (.iastore, 1)) (k : vv_ p l e R s m args below meth c Q X nL L (us σ 27 i x) (pc + 1) st) : vv_ p l e R s m args below meth c Q X nL L σ pc (.int (nI x) :: .int (nI i) :: .ref (adr X 27) :: st) := qv_iast F 27 rfl hi (by decide) hd k
theorem ld_29 (F : fx_ p s m args c cc nL own X) {i : Nat} (hi : i < 8) (hd : decode cc pc = .ok (.iaload, 1)) (k : vv_ p l e R s m args below meth c Q X nL L σ (pc + 1) (.int (nI (σ 29 i)) :: st)) : vv_ p l e R s m args below meth c Q X nL L σ pc (.int (nI i) :: .ref (adr X 29) :: st) := qv_iald F 29 rfl hi (by decide) hd k
theorem sv_29 (F : fx_ p s m args c cc nL own X) {i x : Nat} (hi : i < 8) (hd : decode cc pc = .ok (.iastore, 1)) (k : vv_ p l e R s m args below meth c Q X nL L (us σ 29 i x) (pc + 1) st) : vv_ p l e R s m args below meth c Q X nL L σ pc (.int (nI x) :: .int (nI i) :: .ref (adr X 29) :: st) := qv_iast F 29 rfl hi (by decide) hd k
theorem ld_30 (F : fx_ p s m args c cc nL own X) {i : Nat} (hi : i < 16) (hd : decode cc pc = .ok (.iaload, 1)) (k : vv_ p l e R s m args below meth c Q X nL L σ (pc + 1) (.int (nI (σ 30 i)) :: st)) : vv_ p l e R s m args below meth c Q X nL L σ pc (.int (nI i) :: .ref (adr X 30) :: st) := qv_iald F 30 rfl hi (by decide) hd k
theorem sv_30 (F : fx_ p s m args c cc nL own X) {i x : Nat} (hi : i < 16) (hd : decode cc pc = .ok (.iastore, 1)) (k : vv_ p l e R s m args below meth c Q X nL L (us σ 30 i x) (pc + 1) st) : vv_ p l e R s m args below meth c Q X nL L σ pc (.int (nI x) :: .int (nI i) :: .ref (adr X 30) :: st) := qv_iast F 30 rfl hi (by decide) hd k
theorem ld_31 (F : fx_ p s m args c cc nL own X) {i : Nat} (hi : i < 40) (hd : decode cc pc = .ok (.iaload, 1)) (k : vv_ p l e R s m args below meth c Q X nL L σ (pc + 1) (.int (nI (σ 31 i)) :: st)) : vv_ p l e R s m args below meth c Q X nL L σ pc (.int (nI i) :: .ref (adr X 31) :: st) := qv_iald F 31 rfl hi (by decide) hd k
theorem sv_31 (F : fx_ p s m args c cc nL own X) {i x : Nat} (hi : i < 40) (hd : decode cc pc = .ok (.iastore, 1)) (k : vv_ p l e R s m args below meth c Q X nL L (us σ 31 i x) (pc + 1) st) : vv_ p l e R s m args below meth c Q X nL L σ pc (.int (nI x) :: .int (nI i) :: .ref (adr X 31) :: st) := qv_iast F 31 rfl hi (by decide) hd k
theorem ld_32 (F : fx_ p s m args c cc nL own X) {i : Nat} (hi : i < 40) (hd : decode cc pc = .ok (.iaload, 1)) (k : vv_ p l e R s m args below meth c Q X nL L σ (pc + 1) (.int (nI (σ 32 i)) :: st)) : vv_ p l e R s m args below meth c Q X nL L σ pc (.int (nI i) :: .ref (adr X 32) :: st) := qv_iald F 32 rfl hi (by decide) hd k
theorem sv_32 (F : fx_ p s m args c cc nL own X) {i x : Nat} (hi : i < 40) (hd : decode cc pc = .ok (.iastore, 1)) (k : vv_ p l e R s m args below meth c Q X nL L (us σ 32 i x) (pc + 1) st) : vv_ p l e R s m args below meth c Q X nL L σ pc (.int (nI x) :: .int (nI i) :: .ref (adr X 32) :: st) := qv_iast F 32 rfl hi (by decide) hd k
theorem ld_33 (F : fx_ p s m args c cc nL own X) {i : Nat} (hi : i < 40) (hd : decode cc pc = .ok (.iaload, 1)) (k : vv_ p l e R s m args below meth c Q X nL L σ (pc + 1) (.int (nI (σ 33 i)) :: st)) : vv_ p l e R s m args below meth c Q X nL L σ pc (.int (nI i) :: .ref (adr X 33) :: st) := qv_iald F 33 rfl hi (by decide) hd k
theorem sv_33 (F : fx_ p s m args c cc nL own X) {i x : Nat} (hi : i < 40) (hd : decode cc pc = .ok (.iastore, 1)) (k : vv_ p l e R s m args below meth c Q X nL L (us σ 33 i x) (pc + 1) st) : vv_ p l e R s m args below meth c Q X nL L σ pc (.int (nI x) :: .int (nI i) :: .ref (adr X 33) :: st) := qv_iast F 33 rfl hi (by decide) hd k
theorem ld_34 (F : fx_ p s m args c cc nL own X) {i : Nat} (hi : i < 40) (hd : decode cc pc = .ok (.iaload, 1)) (k : vv_ p l e R s m args below meth c Q X nL L σ (pc + 1) (.int (nI (σ 34 i)) :: st)) : vv_ p l e R s m args below meth c Q X nL L σ pc (.int (nI i) :: .ref (adr X 34) :: st) := qv_iald F 34 rfl hi (by decide) hd k
theorem sv_34 (F : fx_ p s m args c cc nL own X) {i x : Nat} (hi : i < 40) (hd : decode cc pc = .ok (.iastore, 1)) (k : vv_ p l e R s m args below meth c Q X nL L (us σ 34 i x) (pc + 1) st) : vv_ p l e R s m args below meth c Q X nL L σ pc (.int (nI x) :: .int (nI i) :: .ref (adr X 34) :: st) := qv_iast F 34 rfl hi (by decide) hd k
theorem ld_35 (F : fx_ p s m args c cc nL own X) {i : Nat} (hi : i < 8) (hd : decode cc pc = .ok (.iaload, 1)) (k : vv_ p l e R s m args below meth c Q X nL L σ (pc + 1) (.int (nI (σ 35 i)) :: st)) : vv_ p l e R s m args below meth c Q X nL L σ pc (.int (nI i) :: .ref (adr X 35) :: st) := qv_iald F 35 rfl hi (by decide) hd k
theorem sv_35 (F : fx_ p s m args c cc nL own X) {i x : Nat} (hi : i < 8) (hd : decode cc pc = .ok (.iastore, 1)) (k : vv_ p l e R s m args below meth c Q X nL L (us σ 35 i x) (pc + 1) st) : vv_ p l e R s m args below meth c Q X nL L σ pc (.int (nI x) :: .int (nI i) :: .ref (adr X 35) :: st) := qv_iast F 35 rfl hi (by decide) hd k
theorem ld_36 (F : fx_ p s m args c cc nL own X) {i : Nat} (hi : i < 8) (hd : decode cc pc = .ok (.iaload, 1)) (k : vv_ p l e R s m args below meth c Q X nL L σ (pc + 1) (.int (nI (σ 36 i)) :: st)) : vv_ p l e R s m args below meth c Q X nL L σ pc (.int (nI i) :: .ref (adr X 36) :: st) := qv_iald F 36 rfl hi (by decide) hd k
theorem sv_36 (F : fx_ p s m args c cc nL own X) {i x : Nat} (hi : i < 8) (hd : decode cc pc = .ok (.iastore, 1)) (k : vv_ p l e R s m args below meth c Q X nL L (us σ 36 i x) (pc + 1) st) : vv_ p l e R s m args below meth c Q X nL L σ pc (.int (nI x) :: .int (nI i) :: .ref (adr X 36) :: st) := qv_iast F 36 rfl hi (by decide) hd k
theorem ld_43 (F : fx_ p s m args c cc nL own X) {i : Nat} (hi : i < 4) (hd : decode cc pc = .ok (.iaload, 1)) (k : vv_ p l e R s m args below meth c Q X nL L σ (pc + 1) (.int (nI (σ 43 i)) :: st)) : vv_ p l e R s m args below meth c Q X nL L σ pc (.int (nI i) :: .ref (adr X 43) :: st) := qv_iald F 43 rfl hi (by decide) hd k
theorem sv_43 (F : fx_ p s m args c cc nL own X) {i x : Nat} (hi : i < 4) (hd : decode cc pc = .ok (.iastore, 1)) (k : vv_ p l e R s m args below meth c Q X nL L (us σ 43 i x) (pc + 1) st) : vv_ p l e R s m args below meth c Q X nL L σ pc (.int (nI x) :: .int (nI i) :: .ref (adr X 43) :: st) := qv_iast F 43 rfl hi (by decide) hd k
theorem ld_44 (F : fx_ p s m args c cc nL own X) {i : Nat} (hi : i < 8) (hd : decode cc pc = .ok (.iaload, 1)) (k : vv_ p l e R s m args below meth c Q X nL L σ (pc + 1) (.int (nI (σ 44 i)) :: st)) : vv_ p l e R s m args below meth c Q X nL L σ pc (.int (nI i) :: .ref (adr X 44) :: st) := qv_iald F 44 rfl hi (by decide) hd k
theorem sv_44 (F : fx_ p s m args c cc nL own X) {i x : Nat} (hi : i < 8) (hd : decode cc pc = .ok (.iastore, 1)) (k : vv_ p l e R s m args below meth c Q X nL L (us σ 44 i x) (pc + 1) st) : vv_ p l e R s m args below meth c Q X nL L σ pc (.int (nI x) :: .int (nI i) :: .ref (adr X 44) :: st) := qv_iast F 44 rfl hi (by decide) hd k
theorem ld_45 (F : fx_ p s m args c cc nL own X) {i : Nat} (hi : i < 8) (hd : decode cc pc = .ok (.iaload, 1)) (k : vv_ p l e R s m args below meth c Q X nL L σ (pc + 1) (.int (nI (σ 45 i)) :: st)) : vv_ p l e R s m args below meth c Q X nL L σ pc (.int (nI i) :: .ref (adr X 45) :: st) := qv_iald F 45 rfl hi (by decide) hd k
theorem sv_45 (F : fx_ p s m args c cc nL own X) {i x : Nat} (hi : i < 8) (hd : decode cc pc = .ok (.iastore, 1)) (k : vv_ p l e R s m args below meth c Q X nL L (us σ 45 i x) (pc + 1) st) : vv_ p l e R s m args below meth c Q X nL L σ pc (.int (nI x) :: .int (nI i) :: .ref (adr X 45) :: st) := qv_iast F 45 rfl hi (by decide) hd k
theorem ld_46 (F : fx_ p s m args c cc nL own X) {i : Nat} (hi : i < 128) (hd : decode cc pc = .ok (.iaload, 1)) (k : vv_ p l e R s m args below meth c Q X nL L σ (pc + 1) (.int (nI (σ 46 i)) :: st)) : vv_ p l e R s m args below meth c Q X nL L σ pc (.int (nI i) :: .ref (adr X 46) :: st) := qv_iald F 46 rfl hi (by decide) hd k
theorem sv_46 (F : fx_ p s m args c cc nL own X) {i x : Nat} (hi : i < 128) (hd : decode cc pc = .ok (.iastore, 1)) (k : vv_ p l e R s m args below meth c Q X nL L (us σ 46 i x) (pc + 1) st) : vv_ p l e R s m args below meth c Q X nL L σ pc (.int (nI x) :: .int (nI i) :: .ref (adr X 46) :: st) := qv_iast F 46 rfl hi (by decide) hd k
theorem ld_47 (F : fx_ p s m args c cc nL own X) {i : Nat} (hi : i < 16) (hd : decode cc pc = .ok (.iaload, 1)) (k : vv_ p l e R s m args below meth c Q X nL L σ (pc + 1) (.int (nI (σ 47 i)) :: st)) : vv_ p l e R s m args below meth c Q X nL L σ pc (.int (nI i) :: .ref (adr X 47) :: st) := qv_iald F 47 rfl hi (by decide) hd k
theorem sv_47 (F : fx_ p s m args c cc nL own X) {i x : Nat} (hi : i < 16) (hd : decode cc pc = .ok (.iastore, 1)) (k : vv_ p l e R s m args below meth c Q X nL L (us σ 47 i x) (pc + 1) st) : vv_ p l e R s m args below meth c Q X nL L σ pc (.int (nI x) :: .int (nI i) :: .ref (adr X 47) :: st) := qv_iast F 47 rfl hi (by decide) hd k
theorem g_D_15 (F : fx_ p s m args c cc nL R_D X) (hd : decode cc pc = .ok (.getfield 15, 3)) (k : vv_ p l e R s m args below meth c Q X nL L σ (pc + 3) (.ref (adr X 25) :: st)) : vv_ p l e R s m args below meth c Q X nL L σ pc (.ref (adr X 4) :: st) := qv_getr F (ref := R_D) (C := R_D) (T := F_D) (N := 6) in_D 4 rfl rfl 1 (by decide) (by decide +kernel) rfl rfl hd k
theorem g_D_18 (F : fx_ p s m args c cc nL R_D X) (hd : decode cc pc = .ok (.getfield 18, 3)) (k : vv_ p l e R s m args below meth c Q X nL L σ (pc + 3) (.int (nI (σ 4 2)) :: st)) : vv_ p l e R s m args below meth c Q X nL L σ pc (.ref (adr X 4) :: st) := qv_geti F (ref := R_D) (C := R_D) (T := F_D) (N := 6) in_D 4 rfl rfl 2 (by decide) (by decide +kernel) rfl rfl hd k
theorem g_D_22 (F : fx_ p s m args c cc nL R_D X) (hd : decode cc pc = .ok (.getfield 22, 3)) (k : vv_ p l e R s m args below meth c Q X nL L σ (pc + 3) (.ref (adr X 26) :: st)) : vv_ p l e R s m args below meth c Q X nL L σ pc (.ref (adr X 4) :: st) := qv_getr F (ref := R_D) (C := R_D) (T := F_D) (N := 6) in_D 4 rfl rfl 3 (by decide) (by decide +kernel) rfl rfl hd k
theorem g_D_25 (F : fx_ p s m args c cc nL R_D X) (hd : decode cc pc = .ok (.getfield 25, 3)) (k : vv_ p l e R s m args below meth c Q X nL L σ (pc + 3) (.ref (adr X 27) :: st)) : vv_ p l e R s m args below meth c Q X nL L σ pc (.ref (adr X 4) :: st) := qv_getr F (ref := R_D) (C := R_D) (T := F_D) (N := 6) in_D 4 rfl rfl 4 (by decide) (by decide +kernel) rfl rfl hd k
theorem g_D_28 (F : fx_ p s m args c cc nL R_D X) (hd : decode cc pc = .ok (.getfield 28, 3)) (k : vv_ p l e R s m args below meth c Q X nL L σ (pc + 3) (.int (nI (σ 4 5)) :: st)) : vv_ p l e R s m args below meth c Q X nL L σ pc (.ref (adr X 4) :: st) := qv_geti F (ref := R_D) (C := R_D) (T := F_D) (N := 6) in_D 4 rfl rfl 5 (by decide) (by decide +kernel) rfl rfl hd k
theorem g_G_18 (F : fx_ p s m args c cc nL R_G X) (hd : decode cc pc = .ok (.getfield 18, 3)) (k : vv_ p l e R s m args below meth c Q X nL L σ (pc + 3) (.int (nI (σ 1 2)) :: st)) : vv_ p l e R s m args below meth c Q X nL L σ pc (.ref (adr X 1) :: st) := qv_geti F (ref := R_G) (C := R_G) (T := F_G) (N := 14) in_G 1 rfl rfl 2 (by decide) (by decide +kernel) rfl rfl hd k
theorem g_G_22 (F : fx_ p s m args c cc nL R_G X) (hd : decode cc pc = .ok (.getfield 22, 3)) (k : vv_ p l e R s m args below meth c Q X nL L σ (pc + 3) (.ref (adr X 7) :: st)) : vv_ p l e R s m args below meth c Q X nL L σ pc (.ref (adr X 1) :: st) := qv_getr F (ref := R_G) (C := R_G) (T := F_G) (N := 14) in_G 1 rfl rfl 3 (by decide) (by decide +kernel) rfl rfl hd k
theorem g_G_25 (F : fx_ p s m args c cc nL R_G X) (hd : decode cc pc = .ok (.getfield 25, 3)) (k : vv_ p l e R s m args below meth c Q X nL L σ (pc + 3) (.ref (adr X 8) :: st)) : vv_ p l e R s m args below meth c Q X nL L σ pc (.ref (adr X 1) :: st) := qv_getr F (ref := R_G) (C := R_G) (T := F_G) (N := 14) in_G 1 rfl rfl 4 (by decide) (by decide +kernel) rfl rfl hd k
theorem g_G_28 (F : fx_ p s m args c cc nL R_G X) (hd : decode cc pc = .ok (.getfield 28, 3)) (k : vv_ p l e R s m args below meth c Q X nL L σ (pc + 3) (.ref (adr X 9) :: st)) : vv_ p l e R s m args below meth c Q X nL L σ pc (.ref (adr X 1) :: st) := qv_getr F (ref := R_G) (C := R_G) (T := F_G) (N := 14) in_G 1 rfl rfl 5 (by decide) (by decide +kernel) rfl rfl hd k
theorem g_G_31 (F : fx_ p s m args c cc nL R_G X) (hd : decode cc pc = .ok (.getfield 31, 3)) (k : vv_ p l e R s m args below meth c Q X nL L σ (pc + 3) (.ref (adr X 10) :: st)) : vv_ p l e R s m args below meth c Q X nL L σ pc (.ref (adr X 1) :: st) := qv_getr F (ref := R_G) (C := R_G) (T := F_G) (N := 14) in_G 1 rfl rfl 6 (by decide) (by decide +kernel) rfl rfl hd k
theorem g_G_34 (F : fx_ p s m args c cc nL R_G X) (hd : decode cc pc = .ok (.getfield 34, 3)) (k : vv_ p l e R s m args below meth c Q X nL L σ (pc + 3) (.int (nI (σ 1 7)) :: st)) : vv_ p l e R s m args below meth c Q X nL L σ pc (.ref (adr X 1) :: st) := qv_geti F (ref := R_G) (C := R_G) (T := F_G) (N := 14) in_G 1 rfl rfl 7 (by decide) (by decide +kernel) rfl rfl hd k
theorem g_G_37 (F : fx_ p s m args c cc nL R_G X) (hd : decode cc pc = .ok (.getfield 37, 3)) (k : vv_ p l e R s m args below meth c Q X nL L σ (pc + 3) (.ref (adr X 11) :: st)) : vv_ p l e R s m args below meth c Q X nL L σ pc (.ref (adr X 1) :: st) := qv_getr F (ref := R_G) (C := R_G) (T := F_G) (N := 14) in_G 1 rfl rfl 8 (by decide) (by decide +kernel) rfl rfl hd k
theorem g_G_40 (F : fx_ p s m args c cc nL R_G X) (hd : decode cc pc = .ok (.getfield 40, 3)) (k : vv_ p l e R s m args below meth c Q X nL L σ (pc + 3) (.ref (adr X 12) :: st)) : vv_ p l e R s m args below meth c Q X nL L σ pc (.ref (adr X 1) :: st) := qv_getr F (ref := R_G) (C := R_G) (T := F_G) (N := 14) in_G 1 rfl rfl 9 (by decide) (by decide +kernel) rfl rfl hd k
theorem g_G_43 (F : fx_ p s m args c cc nL R_G X) (hd : decode cc pc = .ok (.getfield 43, 3)) (k : vv_ p l e R s m args below meth c Q X nL L σ (pc + 3) (.ref (adr X 13) :: st)) : vv_ p l e R s m args below meth c Q X nL L σ pc (.ref (adr X 1) :: st) := qv_getr F (ref := R_G) (C := R_G) (T := F_G) (N := 14) in_G 1 rfl rfl 10 (by decide) (by decide +kernel) rfl rfl hd k
theorem g_G_46 (F : fx_ p s m args c cc nL R_G X) (hd : decode cc pc = .ok (.getfield 46, 3)) (k : vv_ p l e R s m args below meth c Q X nL L σ (pc + 3) (.ref (adr X 14) :: st)) : vv_ p l e R s m args below meth c Q X nL L σ pc (.ref (adr X 1) :: st) := qv_getr F (ref := R_G) (C := R_G) (T := F_G) (N := 14) in_G 1 rfl rfl 11 (by decide) (by decide +kernel) rfl rfl hd k
theorem g_G_49 (F : fx_ p s m args c cc nL R_G X) (hd : decode cc pc = .ok (.getfield 49, 3)) (k : vv_ p l e R s m args below meth c Q X nL L σ (pc + 3) (.ref (adr X 15) :: st)) : vv_ p l e R s m args below meth c Q X nL L σ pc (.ref (adr X 1) :: st) := qv_getr F (ref := R_G) (C := R_G) (T := F_G) (N := 14) in_G 1 rfl rfl 12 (by decide) (by decide +kernel) rfl rfl hd k
theorem g_G_52 (F : fx_ p s m args c cc nL R_G X) (hd : decode cc pc = .ok (.getfield 52, 3)) (k : vv_ p l e R s m args below meth c Q X nL L σ (pc + 3) (.ref (adr X 16) :: st)) : vv_ p l e R s m args below meth c Q X nL L σ pc (.ref (adr X 1) :: st) := qv_getr F (ref := R_G) (C := R_G) (T := F_G) (N := 14) in_G 1 rfl rfl 13 (by decide) (by decide +kernel) rfl rfl hd k
theorem g_M_7 (F : fx_ p s m args c cc nL R_M X) (hd : decode cc pc = .ok (.getfield 7, 3)) (k : vv_ p l e R s m args below meth c Q X nL L σ (pc + 3) (.ref (adr X 29) :: st)) : vv_ p l e R s m args below meth c Q X nL L σ pc (.ref (adr X 28) :: st) := qv_getr F (ref := R_M) (C := R_M) (T := F_M) (N := 24) in_M 28 rfl rfl 0 (by decide) (by decide +kernel) rfl rfl hd k
theorem g_M_13 (F : fx_ p s m args c cc nL R_M X) (hd : decode cc pc = .ok (.getfield 13, 3)) (k : vv_ p l e R s m args below meth c Q X nL L σ (pc + 3) (.ref (adr X 30) :: st)) : vv_ p l e R s m args below meth c Q X nL L σ pc (.ref (adr X 28) :: st) := qv_getr F (ref := R_M) (C := R_M) (T := F_M) (N := 24) in_M 28 rfl rfl 1 (by decide) (by decide +kernel) rfl rfl hd k
theorem g_M_16 (F : fx_ p s m args c cc nL R_M X) (hd : decode cc pc = .ok (.getfield 16, 3)) (k : vv_ p l e R s m args below meth c Q X nL L σ (pc + 3) (.ref (adr X 31) :: st)) : vv_ p l e R s m args below meth c Q X nL L σ pc (.ref (adr X 28) :: st) := qv_getr F (ref := R_M) (C := R_M) (T := F_M) (N := 24) in_M 28 rfl rfl 3 (by decide) (by decide +kernel) rfl rfl hd k
theorem g_M_19 (F : fx_ p s m args c cc nL R_M X) (hd : decode cc pc = .ok (.getfield 19, 3)) (k : vv_ p l e R s m args below meth c Q X nL L σ (pc + 3) (.ref (adr X 32) :: st)) : vv_ p l e R s m args below meth c Q X nL L σ pc (.ref (adr X 28) :: st) := qv_getr F (ref := R_M) (C := R_M) (T := F_M) (N := 24) in_M 28 rfl rfl 4 (by decide) (by decide +kernel) rfl rfl hd k
theorem g_M_22 (F : fx_ p s m args c cc nL R_M X) (hd : decode cc pc = .ok (.getfield 22, 3)) (k : vv_ p l e R s m args below meth c Q X nL L σ (pc + 3) (.ref (adr X 33) :: st)) : vv_ p l e R s m args below meth c Q X nL L σ pc (.ref (adr X 28) :: st) := qv_getr F (ref := R_M) (C := R_M) (T := F_M) (N := 24) in_M 28 rfl rfl 5 (by decide) (by decide +kernel) rfl rfl hd k
theorem g_M_25 (F : fx_ p s m args c cc nL R_M X) (hd : decode cc pc = .ok (.getfield 25, 3)) (k : vv_ p l e R s m args below meth c Q X nL L σ (pc + 3) (.ref (adr X 34) :: st)) : vv_ p l e R s m args below meth c Q X nL L σ pc (.ref (adr X 28) :: st) := qv_getr F (ref := R_M) (C := R_M) (T := F_M) (N := 24) in_M 28 rfl rfl 6 (by decide) (by decide +kernel) rfl rfl hd k
theorem g_M_28 (F : fx_ p s m args c cc nL R_M X) (hd : decode cc pc = .ok (.getfield 28, 3)) (k : vv_ p l e R s m args below meth c Q X nL L σ (pc + 3) (.ref (adr X 35) :: st)) : vv_ p l e R s m args below meth c Q X nL L σ pc (.ref (adr X 28) :: st) := qv_getr F (ref := R_M) (C := R_M) (T := F_M) (N := 24) in_M 28 rfl rfl 8 (by decide) (by decide +kernel) rfl rfl hd k
theorem g_M_31 (F : fx_ p s m args c cc nL R_M X) (hd : decode cc pc = .ok (.getfield 31, 3)) (k : vv_ p l e R s m args below meth c Q X nL L σ (pc + 3) (.ref (adr X 36) :: st)) : vv_ p l e R s m args below meth c Q X nL L σ pc (.ref (adr X 28) :: st) := qv_getr F (ref := R_M) (C := R_M) (T := F_M) (N := 24) in_M 28 rfl rfl 9 (by decide) (by decide +kernel) rfl rfl hd k
theorem g_M_53 (F : fx_ p s m args c cc nL R_M X) (hd : decode cc pc = .ok (.getfield 53, 3)) (k : vv_ p l e R s m args below meth c Q X nL L σ (pc + 3) (.ref (adr X 43) :: st)) : vv_ p l e R s m args below meth c Q X nL L σ pc (.ref (adr X 28) :: st) := qv_getr F (ref := R_M) (C := R_M) (T := F_M) (N := 24) in_M 28 rfl rfl 16 (by decide) (by decide +kernel) rfl rfl hd k
theorem g_M_56 (F : fx_ p s m args c cc nL R_M X) (hd : decode cc pc = .ok (.getfield 56, 3)) (k : vv_ p l e R s m args below meth c Q X nL L σ (pc + 3) (.ref (adr X 44) :: st)) : vv_ p l e R s m args below meth c Q X nL L σ pc (.ref (adr X 28) :: st) := qv_getr F (ref := R_M) (C := R_M) (T := F_M) (N := 24) in_M 28 rfl rfl 18 (by decide) (by decide +kernel) rfl rfl hd k
theorem g_M_59 (F : fx_ p s m args c cc nL R_M X) (hd : decode cc pc = .ok (.getfield 59, 3)) (k : vv_ p l e R s m args below meth c Q X nL L σ (pc + 3) (.ref (adr X 45) :: st)) : vv_ p l e R s m args below meth c Q X nL L σ pc (.ref (adr X 28) :: st) := qv_getr F (ref := R_M) (C := R_M) (T := F_M) (N := 24) in_M 28 rfl rfl 19 (by decide) (by decide +kernel) rfl rfl hd k
theorem g_M_62 (F : fx_ p s m args c cc nL R_M X) (hd : decode cc pc = .ok (.getfield 62, 3)) (k : vv_ p l e R s m args below meth c Q X nL L σ (pc + 3) (.ref (adr X 46) :: st)) : vv_ p l e R s m args below meth c Q X nL L σ pc (.ref (adr X 28) :: st) := qv_getr F (ref := R_M) (C := R_M) (T := F_M) (N := 24) in_M 28 rfl rfl 20 (by decide) (by decide +kernel) rfl rfl hd k
theorem g_M_65 (F : fx_ p s m args c cc nL R_M X) (hd : decode cc pc = .ok (.getfield 65, 3)) (k : vv_ p l e R s m args below meth c Q X nL L σ (pc + 3) (.ref (adr X 47) :: st)) : vv_ p l e R s m args below meth c Q X nL L σ pc (.ref (adr X 28) :: st) := qv_getr F (ref := R_M) (C := R_M) (T := F_M) (N := 24) in_M 28 rfl rfl 21 (by decide) (by decide +kernel) rfl rfl hd k
theorem g_M_75 (F : fx_ p s m args c cc nL R_M X) (hd : decode cc pc = .ok (.getfield 75, 3)) (k : vv_ p l e R s m args below meth c Q X nL L σ (pc + 3) (.int (nI (σ 28 2)) :: st)) : vv_ p l e R s m args below meth c Q X nL L σ pc (.ref (adr X 28) :: st) := qv_geti F (ref := R_M) (C := R_M) (T := F_M) (N := 24) in_M 28 rfl rfl 2 (by decide) (by decide +kernel) rfl rfl hd k
theorem g_M_86 (F : fx_ p s m args c cc nL R_M X) (hd : decode cc pc = .ok (.getfield 86, 3)) (k : vv_ p l e R s m args below meth c Q X nL L σ (pc + 3) (.int (nI (σ 28 7)) :: st)) : vv_ p l e R s m args below meth c Q X nL L σ pc (.ref (adr X 28) :: st) := qv_geti F (ref := R_M) (C := R_M) (T := F_M) (N := 24) in_M 28 rfl rfl 7 (by decide) (by decide +kernel) rfl rfl hd k
theorem g_M_127 (F : fx_ p s m args c cc nL R_M X) (hd : decode cc pc = .ok (.getfield 127, 3)) (k : vv_ p l e R s m args below meth c Q X nL L σ (pc + 3) (.int (nI (σ 28 17)) :: st)) : vv_ p l e R s m args below meth c Q X nL L σ pc (.ref (adr X 28) :: st) := qv_geti F (ref := R_M) (C := R_M) (T := F_M) (N := 24) in_M 28 rfl rfl 17 (by decide) (by decide +kernel) rfl rfl hd k
theorem g_N_15 (F : fx_ p s m args c cc nL R_N X) (hd : decode cc pc = .ok (.getfield 15, 3)) (k : vv_ p l e R s m args below meth c Q X nL L σ (pc + 3) (.ref (adr X 18) :: st)) : vv_ p l e R s m args below meth c Q X nL L σ pc (.ref (adr X 2) :: st) := qv_getr F (ref := R_N) (C := R_N) (T := F_N) (N := 5) in_N 2 rfl rfl 1 (by decide) (by decide +kernel) rfl rfl hd k
theorem g_N_22 (F : fx_ p s m args c cc nL R_N X) (hd : decode cc pc = .ok (.getfield 22, 3)) (k : vv_ p l e R s m args below meth c Q X nL L σ (pc + 3) (.ref (adr X 19) :: st)) : vv_ p l e R s m args below meth c Q X nL L σ pc (.ref (adr X 2) :: st) := qv_getr F (ref := R_N) (C := R_N) (T := F_N) (N := 5) in_N 2 rfl rfl 3 (by decide) (by decide +kernel) rfl rfl hd k
theorem g_N_25 (F : fx_ p s m args c cc nL R_N X) (hd : decode cc pc = .ok (.getfield 25, 3)) (k : vv_ p l e R s m args below meth c Q X nL L σ (pc + 3) (.ref (adr X 20) :: st)) : vv_ p l e R s m args below meth c Q X nL L σ pc (.ref (adr X 2) :: st) := qv_getr F (ref := R_N) (C := R_N) (T := F_N) (N := 5) in_N 2 rfl rfl 4 (by decide) (by decide +kernel) rfl rfl hd k
theorem g_N_44 (F : fx_ p s m args c cc nL R_N X) (hd : decode cc pc = .ok (.getfield 44, 3)) (k : vv_ p l e R s m args below meth c Q X nL L σ (pc + 3) (.int (nI (σ 1 7)) :: st)) : vv_ p l e R s m args below meth c Q X nL L σ pc (.ref (adr X 1) :: st) := qv_getiN F (ref := R_G) (C := R_G) (T := F_G) (N := 14) (host := R_P) in_G 1 rfl rfl 7 (by decide) (by decide +kernel) rfl rfl hd k
theorem g_N_47 (F : fx_ p s m args c cc nL R_N X) (hd : decode cc pc = .ok (.getfield 47, 3)) (k : vv_ p l e R s m args below meth c Q X nL L σ (pc + 3) (.ref (adr X 11) :: st)) : vv_ p l e R s m args below meth c Q X nL L σ pc (.ref (adr X 1) :: st) := qv_getrN F (ref := R_G) (C := R_G) (T := F_G) (N := 14) (host := R_P) in_G 1 rfl rfl 8 (by decide) (by decide +kernel) rfl rfl hd k
theorem g_N_50 (F : fx_ p s m args c cc nL R_N X) (hd : decode cc pc = .ok (.getfield 50, 3)) (k : vv_ p l e R s m args below meth c Q X nL L σ (pc + 3) (.ref (adr X 12) :: st)) : vv_ p l e R s m args below meth c Q X nL L σ pc (.ref (adr X 1) :: st) := qv_getrN F (ref := R_G) (C := R_G) (T := F_G) (N := 14) (host := R_P) in_G 1 rfl rfl 9 (by decide) (by decide +kernel) rfl rfl hd k
theorem g_P_12 (F : fx_ p s m args c cc nL R_P X) (hd : decode cc pc = .ok (.getfield 12, 3)) (k : vv_ p l e R s m args below meth c Q X nL L σ (pc + 3) (.ref (adr X 1) :: st)) : vv_ p l e R s m args below meth c Q X nL L σ pc (.ref (adr X 0) :: st) := qv_getr F (ref := R_P) (C := R_P) (T := F_P) (N := 5) in_P 0 rfl rfl 0 (by decide) (by decide +kernel) rfl rfl hd k
theorem g_P_19 (F : fx_ p s m args c cc nL R_P X) (hd : decode cc pc = .ok (.getfield 19, 3)) (k : vv_ p l e R s m args below meth c Q X nL L σ (pc + 3) (.ref (adr X 2) :: st)) : vv_ p l e R s m args below meth c Q X nL L σ pc (.ref (adr X 0) :: st) := qv_getr F (ref := R_P) (C := R_P) (T := F_P) (N := 5) in_P 0 rfl rfl 1 (by decide) (by decide +kernel) rfl rfl hd k
theorem g_P_26 (F : fx_ p s m args c cc nL R_P X) (hd : decode cc pc = .ok (.getfield 26, 3)) (k : vv_ p l e R s m args below meth c Q X nL L σ (pc + 3) (.ref (adr X 3) :: st)) : vv_ p l e R s m args below meth c Q X nL L σ pc (.ref (adr X 0) :: st) := qv_getr F (ref := R_P) (C := R_P) (T := F_P) (N := 5) in_P 0 rfl rfl 2 (by decide) (by decide +kernel) rfl rfl hd k
theorem g_P_45 (F : fx_ p s m args c cc nL R_P X) (hd : decode cc pc = .ok (.getfield 45, 3)) (k : vv_ p l e R s m args below meth c Q X nL L σ (pc + 3) (.ref (adr X 5) :: st)) : vv_ p l e R s m args below meth c Q X nL L σ pc (.ref (adr X 1) :: st) := qv_getrN F (ref := R_G) (C := R_G) (T := F_G) (N := 14) (host := R_P) in_G 1 rfl rfl 0 (by decide) (by decide +kernel) rfl rfl hd k
theorem g_P_49 (F : fx_ p s m args c cc nL R_P X) (hd : decode cc pc = .ok (.getfield 49, 3)) (k : vv_ p l e R s m args below meth c Q X nL L σ (pc + 3) (.ref (adr X 6) :: st)) : vv_ p l e R s m args below meth c Q X nL L σ pc (.ref (adr X 1) :: st) := qv_getrN F (ref := R_G) (C := R_G) (T := F_G) (N := 14) (host := R_P) in_G 1 rfl rfl 1 (by decide) (by decide +kernel) rfl rfl hd k
theorem g_P_91 (F : fx_ p s m args c cc nL R_P X) (hd : decode cc pc = .ok (.getfield 91, 3)) (k : vv_ p l e R s m args below meth c Q X nL L σ (pc + 3) (.ref (adr X 17) :: st)) : vv_ p l e R s m args below meth c Q X nL L σ pc (.ref (adr X 2) :: st) := qv_getrN F (ref := R_N) (C := R_N) (T := F_N) (N := 5) (host := R_P) in_N 2 rfl rfl 0 (by decide) (by decide +kernel) rfl rfl hd k
theorem g_P_94 (F : fx_ p s m args c cc nL R_P X) (hd : decode cc pc = .ok (.getfield 94, 3)) (k : vv_ p l e R s m args below meth c Q X nL L σ (pc + 3) (.int (nI (σ 2 2)) :: st)) : vv_ p l e R s m args below meth c Q X nL L σ pc (.ref (adr X 2) :: st) := qv_getiN F (ref := R_N) (C := R_N) (T := F_N) (N := 5) (host := R_P) in_N 2 rfl rfl 2 (by decide) (by decide +kernel) rfl rfl hd k
theorem g_P_97 (F : fx_ p s m args c cc nL R_P X) (hd : decode cc pc = .ok (.getfield 97, 3)) (k : vv_ p l e R s m args below meth c Q X nL L σ (pc + 3) (.ref (adr X 11) :: st)) : vv_ p l e R s m args below meth c Q X nL L σ pc (.ref (adr X 1) :: st) := qv_getrN F (ref := R_G) (C := R_G) (T := F_G) (N := 14) (host := R_P) in_G 1 rfl rfl 8 (by decide) (by decide +kernel) rfl rfl hd k
theorem g_T_11 (F : fx_ p s m args c cc nL R_T X) (hd : decode cc pc = .ok (.getfield 11, 3)) (k : vv_ p l e R s m args below meth c Q X nL L σ (pc + 3) (.ref (adr X 21) :: st)) : vv_ p l e R s m args below meth c Q X nL L σ pc (.ref (adr X 3) :: st) := qv_getr F (ref := R_T) (C := R_T) (T := F_T) (N := 4) in_T 3 rfl rfl 0 (by decide) (by decide +kernel) rfl rfl hd k
theorem g_T_15 (F : fx_ p s m args c cc nL R_T X) (hd : decode cc pc = .ok (.getfield 15, 3)) (k : vv_ p l e R s m args below meth c Q X nL L σ (pc + 3) (.ref (adr X 22) :: st)) : vv_ p l e R s m args below meth c Q X nL L σ pc (.ref (adr X 3) :: st) := qv_getr F (ref := R_T) (C := R_T) (T := F_T) (N := 4) in_T 3 rfl rfl 1 (by decide) (by decide +kernel) rfl rfl hd k
theorem g_T_18 (F : fx_ p s m args c cc nL R_T X) (hd : decode cc pc = .ok (.getfield 18, 3)) (k : vv_ p l e R s m args below meth c Q X nL L σ (pc + 3) (.ref (adr X 23) :: st)) : vv_ p l e R s m args below meth c Q X nL L σ pc (.ref (adr X 3) :: st) := qv_getr F (ref := R_T) (C := R_T) (T := F_T) (N := 4) in_T 3 rfl rfl 2 (by decide) (by decide +kernel) rfl rfl hd k
theorem g_T_52 (F : fx_ p s m args c cc nL R_T X) (hd : decode cc pc = .ok (.getfield 52, 3)) (k : vv_ p l e R s m args below meth c Q X nL L σ (pc + 3) (.ref (adr X 6) :: st)) : vv_ p l e R s m args below meth c Q X nL L σ pc (.ref (adr X 1) :: st) := qv_getrN F (ref := R_G) (C := R_G) (T := F_G) (N := 14) (host := R_P) in_G 1 rfl rfl 1 (by decide) (by decide +kernel) rfl rfl hd k
theorem g_T_57 (F : fx_ p s m args c cc nL R_T X) (hd : decode cc pc = .ok (.getfield 57, 3)) (k : vv_ p l e R s m args below meth c Q X nL L σ (pc + 3) (.ref (adr X 5) :: st)) : vv_ p l e R s m args below meth c Q X nL L σ pc (.ref (adr X 1) :: st) := qv_getrN F (ref := R_G) (C := R_G) (T := F_G) (N := 14) (host := R_P) in_G 1 rfl rfl 0 (by decide) (by decide +kernel) rfl rfl hd k
theorem g_T_64 (F : fx_ p s m args c cc nL R_T X) (hd : decode cc pc = .ok (.getfield 64, 3)) (k : vv_ p l e R s m args below meth c Q X nL L σ (pc + 3) (.int (nI (σ 1 2)) :: st)) : vv_ p l e R s m args below meth c Q X nL L σ pc (.ref (adr X 1) :: st) := qv_getiN F (ref := R_G) (C := R_G) (T := F_G) (N := 14) (host := R_P) in_G 1 rfl rfl 2 (by decide) (by decide +kernel) rfl rfl hd k
theorem g_T_68 (F : fx_ p s m args c cc nL R_T X) (hd : decode cc pc = .ok (.getfield 68, 3)) (k : vv_ p l e R s m args below meth c Q X nL L σ (pc + 3) (.ref (adr X 17) :: st)) : vv_ p l e R s m args below meth c Q X nL L σ pc (.ref (adr X 2) :: st) := qv_getrN F (ref := R_N) (C := R_N) (T := F_N) (N := 5) (host := R_P) in_N 2 rfl rfl 0 (by decide) (by decide +kernel) rfl rfl hd k
theorem g_T_73 (F : fx_ p s m args c cc nL R_T X) (hd : decode cc pc = .ok (.getfield 73, 3)) (k : vv_ p l e R s m args below meth c Q X nL L σ (pc + 3) (.ref (adr X 8) :: st)) : vv_ p l e R s m args below meth c Q X nL L σ pc (.ref (adr X 1) :: st) := qv_getrN F (ref := R_G) (C := R_G) (T := F_G) (N := 14) (host := R_P) in_G 1 rfl rfl 4 (by decide) (by decide +kernel) rfl rfl hd k
theorem g_T_83 (F : fx_ p s m args c cc nL R_T X) (hd : decode cc pc = .ok (.getfield 83, 3)) (k : vv_ p l e R s m args below meth c Q X nL L σ (pc + 3) (.ref (adr X 9) :: st)) : vv_ p l e R s m args below meth c Q X nL L σ pc (.ref (adr X 1) :: st) := qv_getrN F (ref := R_G) (C := R_G) (T := F_G) (N := 14) (host := R_P) in_G 1 rfl rfl 5 (by decide) (by decide +kernel) rfl rfl hd k
theorem g_T_86 (F : fx_ p s m args c cc nL R_T X) (hd : decode cc pc = .ok (.getfield 86, 3)) (k : vv_ p l e R s m args below meth c Q X nL L σ (pc + 3) (.ref (adr X 10) :: st)) : vv_ p l e R s m args below meth c Q X nL L σ pc (.ref (adr X 1) :: st) := qv_getrN F (ref := R_G) (C := R_G) (T := F_G) (N := 14) (host := R_P) in_G 1 rfl rfl 6 (by decide) (by decide +kernel) rfl rfl hd k
theorem g_T_89 (F : fx_ p s m args c cc nL R_T X) (hd : decode cc pc = .ok (.getfield 89, 3)) (k : vv_ p l e R s m args below meth c Q X nL L σ (pc + 3) (.ref (adr X 7) :: st)) : vv_ p l e R s m args below meth c Q X nL L σ pc (.ref (adr X 1) :: st) := qv_getrN F (ref := R_G) (C := R_G) (T := F_G) (N := 14) (host := R_P) in_G 1 rfl rfl 3 (by decide) (by decide +kernel) rfl rfl hd k
theorem g_T_106 (F : fx_ p s m args c cc nL R_T X) (hd : decode cc pc = .ok (.getfield 106, 3)) (k : vv_ p l e R s m args below meth c Q X nL L σ (pc + 3) (.int (nI (σ 1 7)) :: st)) : vv_ p l e R s m args below meth c Q X nL L σ pc (.ref (adr X 1) :: st) := qv_getiN F (ref := R_G) (C := R_G) (T := F_G) (N := 14) (host := R_P) in_G 1 rfl rfl 7 (by decide) (by decide +kernel) rfl rfl hd k
theorem g_T_109 (F : fx_ p s m args c cc nL R_T X) (hd : decode cc pc = .ok (.getfield 109, 3)) (k : vv_ p l e R s m args below meth c Q X nL L σ (pc + 3) (.ref (adr X 11) :: st)) : vv_ p l e R s m args below meth c Q X nL L σ pc (.ref (adr X 1) :: st) := qv_getrN F (ref := R_G) (C := R_G) (T := F_G) (N := 14) (host := R_P) in_G 1 rfl rfl 8 (by decide) (by decide +kernel) rfl rfl hd k
theorem g_T_119 (F : fx_ p s m args c cc nL R_T X) (hd : decode cc pc = .ok (.getfield 119, 3)) (k : vv_ p l e R s m args below meth c Q X nL L σ (pc + 3) (.ref (adr X 13) :: st)) : vv_ p l e R s m args below meth c Q X nL L σ pc (.ref (adr X 1) :: st) := qv_getrN F (ref := R_G) (C := R_G) (T := F_G) (N := 14) (host := R_P) in_G 1 rfl rfl 10 (by decide) (by decide +kernel) rfl rfl hd k
theorem g_T_122 (F : fx_ p s m args c cc nL R_T X) (hd : decode cc pc = .ok (.getfield 122, 3)) (k : vv_ p l e R s m args below meth c Q X nL L σ (pc + 3) (.ref (adr X 14) :: st)) : vv_ p l e R s m args below meth c Q X nL L σ pc (.ref (adr X 1) :: st) := qv_getrN F (ref := R_G) (C := R_G) (T := F_G) (N := 14) (host := R_P) in_G 1 rfl rfl 11 (by decide) (by decide +kernel) rfl rfl hd k
theorem g_T_125 (F : fx_ p s m args c cc nL R_T X) (hd : decode cc pc = .ok (.getfield 125, 3)) (k : vv_ p l e R s m args below meth c Q X nL L σ (pc + 3) (.ref (adr X 15) :: st)) : vv_ p l e R s m args below meth c Q X nL L σ pc (.ref (adr X 1) :: st) := qv_getrN F (ref := R_G) (C := R_G) (T := F_G) (N := 14) (host := R_P) in_G 1 rfl rfl 12 (by decide) (by decide +kernel) rfl rfl hd k
theorem g_T_128 (F : fx_ p s m args c cc nL R_T X) (hd : decode cc pc = .ok (.getfield 128, 3)) (k : vv_ p l e R s m args below meth c Q X nL L σ (pc + 3) (.ref (adr X 16) :: st)) : vv_ p l e R s m args below meth c Q X nL L σ pc (.ref (adr X 1) :: st) := qv_getrN F (ref := R_G) (C := R_G) (T := F_G) (N := 14) (host := R_P) in_G 1 rfl rfl 13 (by decide) (by decide +kernel) rfl rfl hd k
theorem p_D_28 (F : fx_ p s m args c cc nL R_D X) {x : Nat} (hd : decode cc pc = .ok (.putfield 28, 3)) (k : vv_ p l e R s m args below meth c Q X nL L (us σ 4 5 x) (pc + 3) st) : vv_ p l e R s m args below meth c Q X nL L σ pc (.int (nI x) :: .ref (adr X 4) :: st) := qv_put F (ref := R_D) (C := R_D) (T := F_D) (N := 6) in_D tf_D tt_D nn_D 4 rfl rfl rfl 5 (by decide) (by decide +kernel) rfl rfl (ty := .int) (by decide +kernel) rfl rfl rfl hd k
theorem p_G_18 (F : fx_ p s m args c cc nL R_G X) {x : Nat} (hd : decode cc pc = .ok (.putfield 18, 3)) (k : vv_ p l e R s m args below meth c Q X nL L (us σ 1 2 x) (pc + 3) st) : vv_ p l e R s m args below meth c Q X nL L σ pc (.int (nI x) :: .ref (adr X 1) :: st) := qv_put F (ref := R_G) (C := R_G) (T := F_G) (N := 14) in_G tf_G tt_G nn_G 1 rfl rfl rfl 2 (by decide) (by decide +kernel) rfl rfl (ty := .int) (by decide +kernel) rfl rfl rfl hd k
theorem p_G_34 (F : fx_ p s m args c cc nL R_G X) {x : Nat} (hd : decode cc pc = .ok (.putfield 34, 3)) (k : vv_ p l e R s m args below meth c Q X nL L (us σ 1 7 x) (pc + 3) st) : vv_ p l e R s m args below meth c Q X nL L σ pc (.int (nI x) :: .ref (adr X 1) :: st) := qv_put F (ref := R_G) (C := R_G) (T := F_G) (N := 14) in_G tf_G tt_G nn_G 1 rfl rfl rfl 7 (by decide) (by decide +kernel) rfl rfl (ty := .int) (by decide +kernel) rfl rfl rfl hd k
theorem p_M_75 (F : fx_ p s m args c cc nL R_M X) {x : Nat} (hd : decode cc pc = .ok (.putfield 75, 3)) (k : vv_ p l e R s m args below meth c Q X nL L (us σ 28 2 x) (pc + 3) st) : vv_ p l e R s m args below meth c Q X nL L σ pc (.int (nI x) :: .ref (adr X 28) :: st) := qv_put F (ref := R_M) (C := R_M) (T := F_M) (N := 24) in_M tf_M tt_M nn_M 28 rfl rfl rfl 2 (by decide) (by decide +kernel) rfl rfl (ty := .int) (by decide +kernel) rfl rfl rfl hd k
theorem p_M_86 (F : fx_ p s m args c cc nL R_M X) {x : Nat} (hd : decode cc pc = .ok (.putfield 86, 3)) (k : vv_ p l e R s m args below meth c Q X nL L (us σ 28 7 x) (pc + 3) st) : vv_ p l e R s m args below meth c Q X nL L σ pc (.int (nI x) :: .ref (adr X 28) :: st) := qv_put F (ref := R_M) (C := R_M) (T := F_M) (N := 24) in_M tf_M tt_M nn_M 28 rfl rfl rfl 7 (by decide) (by decide +kernel) rfl rfl (ty := .int) (by decide +kernel) rfl rfl rfl hd k
theorem p_M_139 (F : fx_ p s m args c cc nL R_M X) {x : Nat} (hd : decode cc pc = .ok (.putfield 139, 3)) (k : vv_ p l e R s m args below meth c Q X nL L (us σ 28 22 x) (pc + 3) st) : vv_ p l e R s m args below meth c Q X nL L σ pc (.int (nI x) :: .ref (adr X 28) :: st) := qv_put F (ref := R_M) (C := R_M) (T := F_M) (N := 24) in_M tf_M tt_M nn_M 28 rfl rfl rfl 22 (by decide) (by decide +kernel) rfl rfl (ty := .int) (by decide +kernel) rfl rfl rfl hd k
theorem p_P_37 (F : fx_ p s m args c cc nL R_P X) {x : Nat} (hd : decode cc pc = .ok (.putfield 37, 3)) (k : vv_ p l e R s m args below meth c Q X nL L (us σ 0 4 x) (pc + 3) st) : vv_ p l e R s m args below meth c Q X nL L σ pc (.int (nI x) :: .ref (adr X 0) :: st) := qv_put F (ref := R_P) (C := R_P) (T := F_P) (N := 5) in_P tf_P tt_P nn_P 0 rfl rfl rfl 4 (by decide) (by decide +kernel) rfl rfl (ty := .int) (by decide +kernel) rfl rfl rfl hd k
theorem p_T_21 (F : fx_ p s m args c cc nL R_T X) {x : Nat} (hx : x = 0 ∨ x = 1) (hd : decode cc pc = .ok (.putfield 21, 3)) (k : vv_ p l e R s m args below meth c Q X nL L (us σ 3 3 x) (pc + 3) st) : vv_ p l e R s m args below meth c Q X nL L σ pc (.int (nI x) :: .ref (adr X 3) :: st) := qv_put F (ref := R_T) (C := R_T) (T := F_T) (N := 4) in_T tf_T tt_T nn_T 3 rfl rfl rfl 3 (by decide) (by decide +kernel) rfl rfl (ty := .boolean) (by decide +kernel) rfl (by rcases hx with h | h <;> (rw [h]; decide)) (by rcases hx with h | h <;> (rw [h]; decide)) hd k
theorem i_D_43p (F : fx_ p s m args c cc nL R_D X) {v0 v1 : Value} {rest : List Value} {d : Nat} {P : Option Value → sg → Prop} (hM : mt_ l X y_D_joinPairs w_D_joinPairs d [.ref (adr X 4), v0, v1] σ (P)) (hR : d + 1 ≤ R.frames ∧ 8 + (6 + 11) + 30 * d ≤ R.locals) (hw : (rest.map fun v => v.category).sum ≤ 8) (hd : decode cc pc = .ok (.invokevirtual 43, 3)) (k : ∀ (r : Option Value) (τ : sg), P r τ → vv_ p l e R s m args below meth c Q X nL L τ (pc + 3) (r.toList ++ rest)) : vv_ p l e R s m args below meth c Q X nL L σ pc (v1 :: v0 :: .ref (adr X 4) :: rest) :=
  qv_callV F (maxL := 6) (ret := none) (n := 2) (as := [v0, v1]) (rest := rest) 4 rfl rfl (by decide +kernel) (by decide +kernel) (by decide +kernel) (by decide +kernel) (by decide +kernel) (by decide +kernel) hM rfl hR hw hd k
theorem i_D_47p (F : fx_ p s m args c cc nL R_D X) {v0 v1 : Value} {rest : List Value} {d : Nat} {P : Option Value → sg → Prop} (hM : mt_ l X y_D_findNode w_D_findNode d [.ref (adr X 4), v0, v1] σ (P)) (hR : d + 1 ≤ R.frames ∧ 8 + (4 + 11) + 30 * d ≤ R.locals) (hw : (rest.map fun v => v.category).sum ≤ 8) (hd : decode cc pc = .ok (.invokevirtual 47, 3)) (k : ∀ (r : Option Value) (τ : sg), P r τ → vv_ p l e R s m args below meth c Q X nL L τ (pc + 3) (r.toList ++ rest)) : vv_ p l e R s m args below meth c Q X nL L σ pc (v1 :: v0 :: .ref (adr X 4) :: rest) :=
  qv_callV F (maxL := 4) (ret := (some .int)) (n := 2) (as := [v0, v1]) (rest := rest) 4 rfl rfl (by decide +kernel) (by decide +kernel) (by decide +kernel) (by decide +kernel) (by decide +kernel) (by decide +kernel) hM rfl hR hw hd k
theorem i_G_62i (F : fx_ p s m args c cc nL R_G X) {v0 v1 : Value} {rest : List Value} {d : Nat} {z : Int32} {τ : sg} (hM : mt_ l X y_P_isWithin w_P_isWithin d [v0, v1] σ (ei_ z τ)) (hR : d + 1 ≤ R.frames ∧ 8 + (2 + 11) + 30 * d ≤ R.locals) (hw : (rest.map fun v => v.category).sum ≤ 8) (hd : decode cc pc = .ok (.invokestatic 62, 3)) (k : vv_ p l e R s m args below meth c Q X nL L τ (pc + 3) (.int z :: rest)) : vv_ p l e R s m args below meth c Q X nL L σ pc (v1 :: v0 :: rest) :=
  qv_callSN F (host := R_P) (maxL := 2) (ret := (some .boolean)) (n := 2) (as := [v0, v1]) (rest := rest) (by decide +kernel) (by decide +kernel) (by decide +kernel) (by decide +kernel) (by decide +kernel) hM rfl hR hw hd (fun r τ' hp => by obtain ⟨rfl, rfl⟩ := hp; exact k)
theorem i_G_66i (F : fx_ p s m args c cc nL R_G X) {v0 v1 : Value} {rest : List Value} {d : Nat} {z : Int32} {τ : sg} (hM : mt_ l X y_P_isOfMethod w_P_isOfMethod d [v0, v1] σ (ei_ z τ)) (hR : d + 1 ≤ R.frames ∧ 8 + (2 + 11) + 30 * d ≤ R.locals) (hw : (rest.map fun v => v.category).sum ≤ 8) (hd : decode cc pc = .ok (.invokestatic 66, 3)) (k : vv_ p l e R s m args below meth c Q X nL L τ (pc + 3) (.int z :: rest)) : vv_ p l e R s m args below meth c Q X nL L σ pc (v1 :: v0 :: rest) :=
  qv_callSN F (host := R_P) (maxL := 2) (ret := (some .boolean)) (n := 2) (as := [v0, v1]) (rest := rest) (by decide +kernel) (by decide +kernel) (by decide +kernel) (by decide +kernel) (by decide +kernel) hM rfl hR hw hd (fun r τ' hp => by obtain ⟨rfl, rfl⟩ := hp; exact k)
theorem i_M_71i (F : fx_ p s m args c cc nL R_M X) {v0 v1 : Value} {rest : List Value} {d : Nat} {z : Int32} {τ : sg} (hM : mt_ l X y_M_in w_M_in d [v0, v1] σ (ei_ z τ)) (hR : d + 1 ≤ R.frames ∧ 8 + (2 + 11) + 30 * d ≤ R.locals) (hw : (rest.map fun v => v.category).sum ≤ 8) (hd : decode cc pc = .ok (.invokestatic 71, 3)) (k : vv_ p l e R s m args below meth c Q X nL L τ (pc + 3) (.int z :: rest)) : vv_ p l e R s m args below meth c Q X nL L σ pc (v1 :: v0 :: rest) :=
  qv_callS F (maxL := 2) (ret := (some .boolean)) (n := 2) (as := [v0, v1]) (rest := rest) (by decide +kernel) (by decide +kernel) (by decide +kernel) (by decide +kernel) (by decide +kernel) hM rfl hR hw hd (fun r τ' hp => by obtain ⟨rfl, rfl⟩ := hp; exact k)
theorem i_M_79i (F : fx_ p s m args c cc nL R_M X) {v0 v1 v2 v3 : Value} {rest : List Value} {d : Nat} {z : Int32} {τ : sg} (hM : mt_ l X y_M_statement w_M_statement d [.ref (adr X 28), v0, v1, v2, v3] σ (ei_ z τ)) (hR : d + 1 ≤ R.frames ∧ 8 + (5 + 11) + 30 * d ≤ R.locals) (hw : (rest.map fun v => v.category).sum ≤ 8) (hd : decode cc pc = .ok (.invokevirtual 79, 3)) (k : vv_ p l e R s m args below meth c Q X nL L τ (pc + 3) (.int z :: rest)) : vv_ p l e R s m args below meth c Q X nL L σ pc (v3 :: v2 :: v1 :: v0 :: .ref (adr X 28) :: rest) :=
  qv_callV F (maxL := 5) (ret := (some .int)) (n := 4) (as := [v0, v1, v2, v3]) (rest := rest) 28 rfl rfl (by decide +kernel) (by decide +kernel) (by decide +kernel) (by decide +kernel) (by decide +kernel) (by decide +kernel) hM rfl hR hw hd (fun r τ' hp => by obtain ⟨rfl, rfl⟩ := hp; exact k)
theorem i_M_83i (F : fx_ p s m args c cc nL R_M X) {v0 v1 : Value} {rest : List Value} {d : Nat} {z : Int32} {τ : sg} (hM : mt_ l X y_M_together w_M_together d [v0, v1] σ (ei_ z τ)) (hR : d + 1 ≤ R.frames ∧ 8 + (2 + 11) + 30 * d ≤ R.locals) (hw : (rest.map fun v => v.category).sum ≤ 8) (hd : decode cc pc = .ok (.invokestatic 83, 3)) (k : vv_ p l e R s m args below meth c Q X nL L τ (pc + 3) (.int z :: rest)) : vv_ p l e R s m args below meth c Q X nL L σ pc (v1 :: v0 :: rest) :=
  qv_callS F (maxL := 2) (ret := (some .boolean)) (n := 2) (as := [v0, v1]) (rest := rest) (by decide +kernel) (by decide +kernel) (by decide +kernel) (by decide +kernel) (by decide +kernel) hM rfl hR hw hd (fun r τ' hp => by obtain ⟨rfl, rfl⟩ := hp; exact k)
theorem i_M_136i (F : fx_ p s m args c cc nL R_M X) {v0 v1 : Value} {rest : List Value} {d : Nat} {z : Int32} {τ : sg} (hM : mt_ l X y_M_isContext w_M_isContext d [.ref (adr X 28), v0, v1] σ (ei_ z τ)) (hR : d + 1 ≤ R.frames ∧ 8 + (3 + 11) + 30 * d ≤ R.locals) (hw : (rest.map fun v => v.category).sum ≤ 8) (hd : decode cc pc = .ok (.invokevirtual 136, 3)) (k : vv_ p l e R s m args below meth c Q X nL L τ (pc + 3) (.int z :: rest)) : vv_ p l e R s m args below meth c Q X nL L σ pc (v1 :: v0 :: .ref (adr X 28) :: rest) :=
  qv_callV F (maxL := 3) (ret := (some .boolean)) (n := 2) (as := [v0, v1]) (rest := rest) 28 rfl rfl (by decide +kernel) (by decide +kernel) (by decide +kernel) (by decide +kernel) (by decide +kernel) (by decide +kernel) hM rfl hR hw hd (fun r τ' hp => by obtain ⟨rfl, rfl⟩ := hp; exact k)
theorem i_N_28v (F : fx_ p s m args c cc nL R_N X) {v0 v1 : Value} {rest : List Value} {d : Nat} {τ : sg} (hM : mt_ l X y_A_fill w_A_fill d [v0, v1] σ (ev_ τ)) (hR : d + 1 ≤ R.frames ∧ 8 + (4 + 11) + 30 * d ≤ R.locals) (hw : (rest.map fun v => v.category).sum ≤ 8) (hd : decode cc pc = .ok (.invokestatic 28, 3)) (k : vv_ p l e R s m args below meth c Q X nL L τ (pc + 3) rest) : vv_ p l e R s m args below meth c Q X nL L σ pc (v1 :: v0 :: rest) :=
  qv_callS F (maxL := 4) (ret := none) (n := 2) (as := [v0, v1]) (rest := rest) (by decide +kernel) (by decide +kernel) (by decide +kernel) (by decide +kernel) (by decide +kernel) hM rfl hR hw hd (fun r τ' hp => by obtain ⟨rfl, rfl⟩ := hp; exact k)
theorem i_N_53i (F : fx_ p s m args c cc nL R_N X) {v0 v1 : Value} {rest : List Value} {d : Nat} {z : Int32} {τ : sg} (hM : mt_ l X y_P_hasBit w_P_hasBit d [v0, v1] σ (ei_ z τ)) (hR : d + 1 ≤ R.frames ∧ 8 + (2 + 11) + 30 * d ≤ R.locals) (hw : (rest.map fun v => v.category).sum ≤ 8) (hd : decode cc pc = .ok (.invokestatic 53, 3)) (k : vv_ p l e R s m args below meth c Q X nL L τ (pc + 3) (.int z :: rest)) : vv_ p l e R s m args below meth c Q X nL L σ pc (v1 :: v0 :: rest) :=
  qv_callSN F (host := R_P) (maxL := 2) (ret := (some .boolean)) (n := 2) (as := [v0, v1]) (rest := rest) (by decide +kernel) (by decide +kernel) (by decide +kernel) (by decide +kernel) (by decide +kernel) hM rfl hR hw hd (fun r τ' hp => by obtain ⟨rfl, rfl⟩ := hp; exact k)
theorem i_N_67i (F : fx_ p s m args c cc nL R_N X) {v0 v1 : Value} {rest : List Value} {d : Nat} {z : Int32} {τ : sg} (hM : mt_ l X y_N_isOuter w_N_isOuter d [.ref (adr X 2), v0, v1] σ (ei_ z τ)) (hR : d + 1 ≤ R.frames ∧ 8 + (3 + 11) + 30 * d ≤ R.locals) (hw : (rest.map fun v => v.category).sum ≤ 8) (hd : decode cc pc = .ok (.invokevirtual 67, 3)) (k : vv_ p l e R s m args below meth c Q X nL L τ (pc + 3) (.int z :: rest)) : vv_ p l e R s m args below meth c Q X nL L σ pc (v1 :: v0 :: .ref (adr X 2) :: rest) :=
  qv_callV F (maxL := 3) (ret := (some .boolean)) (n := 2) (as := [v0, v1]) (rest := rest) 2 rfl rfl (by decide +kernel) (by decide +kernel) (by decide +kernel) (by decide +kernel) (by decide +kernel) (by decide +kernel) hM rfl hR hw hd (fun r τ' hp => by obtain ⟨rfl, rfl⟩ := hp; exact k)
theorem i_N_71i (F : fx_ p s m args c cc nL R_N X) {v0 v1 : Value} {rest : List Value} {d : Nat} {z : Int32} {τ : sg} (hM : mt_ l X y_N_areOfOneGroup w_N_areOfOneGroup d [.ref (adr X 2), v0, v1] σ (ei_ z τ)) (hR : d + 1 ≤ R.frames ∧ 8 + (3 + 11) + 30 * d ≤ R.locals) (hw : (rest.map fun v => v.category).sum ≤ 8) (hd : decode cc pc = .ok (.invokevirtual 71, 3)) (k : vv_ p l e R s m args below meth c Q X nL L τ (pc + 3) (.int z :: rest)) : vv_ p l e R s m args below meth c Q X nL L σ pc (v1 :: v0 :: .ref (adr X 2) :: rest) :=
  qv_callV F (maxL := 3) (ret := (some .boolean)) (n := 2) (as := [v0, v1]) (rest := rest) 2 rfl rfl (by decide +kernel) (by decide +kernel) (by decide +kernel) (by decide +kernel) (by decide +kernel) (by decide +kernel) hM rfl hR hw hd (fun r τ' hp => by obtain ⟨rfl, rfl⟩ := hp; exact k)
theorem i_P_41i (F : fx_ p s m args c cc nL R_P X) {v0 v1 : Value} {rest : List Value} {d : Nat} {z : Int32} {τ : sg} (hM : mt_ l X y_P_isWithin w_P_isWithin d [v0, v1] σ (ei_ z τ)) (hR : d + 1 ≤ R.frames ∧ 8 + (2 + 11) + 30 * d ≤ R.locals) (hw : (rest.map fun v => v.category).sum ≤ 8) (hd : decode cc pc = .ok (.invokestatic 41, 3)) (k : vv_ p l e R s m args below meth c Q X nL L τ (pc + 3) (.int z :: rest)) : vv_ p l e R s m args below meth c Q X nL L σ pc (v1 :: v0 :: rest) :=
  qv_callS F (maxL := 2) (ret := (some .boolean)) (n := 2) (as := [v0, v1]) (rest := rest) (by decide +kernel) (by decide +kernel) (by decide +kernel) (by decide +kernel) (by decide +kernel) hM rfl hR hw hd (fun r τ' hp => by obtain ⟨rfl, rfl⟩ := hp; exact k)
theorem i_P_52i (F : fx_ p s m args c cc nL R_P X) {v0 v1 v2 v3 : Value} {rest : List Value} {d : Nat} {z : Int32} {τ : sg} (hM : mt_ l X y_G_addStatement w_G_addStatement d [.ref (adr X 1), v0, v1, v2, v3] σ (ei_ z τ)) (hR : d + 1 ≤ R.frames ∧ 8 + (5 + 11) + 30 * d ≤ R.locals) (hw : (rest.map fun v => v.category).sum ≤ 8) (hd : decode cc pc = .ok (.invokevirtual 52, 3)) (k : vv_ p l e R s m args below meth c Q X nL L τ (pc + 3) (.int z :: rest)) : vv_ p l e R s m args below meth c Q X nL L σ pc (v3 :: v2 :: v1 :: v0 :: .ref (adr X 1) :: rest) :=
  qv_callV F (maxL := 5) (ret := (some .int)) (n := 4) (as := [v0, v1, v2, v3]) (rest := rest) 1 rfl rfl (by decide +kernel) (by decide +kernel) (by decide +kernel) (by decide +kernel) (by decide +kernel) (by decide +kernel) hM rfl hR hw hd (fun r τ' hp => by obtain ⟨rfl, rfl⟩ := hp; exact k)
theorem i_P_56i (F : fx_ p s m args c cc nL R_P X) {v0 v1 : Value} {rest : List Value} {d : Nat} {z : Int32} {τ : sg} (hM : mt_ l X y_P_areOfOneMethod w_P_areOfOneMethod d [v0, v1] σ (ei_ z τ)) (hR : d + 1 ≤ R.frames ∧ 8 + (2 + 11) + 30 * d ≤ R.locals) (hw : (rest.map fun v => v.category).sum ≤ 8) (hd : decode cc pc = .ok (.invokestatic 56, 3)) (k : vv_ p l e R s m args below meth c Q X nL L τ (pc + 3) (.int z :: rest)) : vv_ p l e R s m args below meth c Q X nL L σ pc (v1 :: v0 :: rest) :=
  qv_callS F (maxL := 2) (ret := (some .boolean)) (n := 2) (as := [v0, v1]) (rest := rest) (by decide +kernel) (by decide +kernel) (by decide +kernel) (by decide +kernel) (by decide +kernel) hM rfl hR hw hd (fun r τ' hp => by obtain ⟨rfl, rfl⟩ := hp; exact k)
theorem i_P_59i (F : fx_ p s m args c cc nL R_P X) {v0 v1 : Value} {rest : List Value} {d : Nat} {z : Int32} {τ : sg} (hM : mt_ l X y_G_addCall w_G_addCall d [.ref (adr X 1), v0, v1] σ (ei_ z τ)) (hR : d + 1 ≤ R.frames ∧ 8 + (3 + 11) + 30 * d ≤ R.locals) (hw : (rest.map fun v => v.category).sum ≤ 8) (hd : decode cc pc = .ok (.invokevirtual 59, 3)) (k : vv_ p l e R s m args below meth c Q X nL L τ (pc + 3) (.int z :: rest)) : vv_ p l e R s m args below meth c Q X nL L σ pc (v1 :: v0 :: .ref (adr X 1) :: rest) :=
  qv_callV F (maxL := 3) (ret := (some .int)) (n := 2) (as := [v0, v1]) (rest := rest) 1 rfl rfl (by decide +kernel) (by decide +kernel) (by decide +kernel) (by decide +kernel) (by decide +kernel) (by decide +kernel) hM rfl hR hw hd (fun r τ' hp => by obtain ⟨rfl, rfl⟩ := hp; exact k)
theorem i_P_63i (F : fx_ p s m args c cc nL R_P X) {v0 v1 v2 v3 : Value} {rest : List Value} {d : Nat} {z : Int32} {τ : sg} (hM : mt_ l X y_G_mayPass w_G_mayPass d [.ref (adr X 1), v0, v1, v2, v3] σ (ei_ z τ)) (hR : d + 1 ≤ R.frames ∧ 8 + (5 + 11) + 30 * d ≤ R.locals) (hw : (rest.map fun v => v.category).sum ≤ 8) (hd : decode cc pc = .ok (.invokevirtual 63, 3)) (k : vv_ p l e R s m args below meth c Q X nL L τ (pc + 3) (.int z :: rest)) : vv_ p l e R s m args below meth c Q X nL L σ pc (v3 :: v2 :: v1 :: v0 :: .ref (adr X 1) :: rest) :=
  qv_callV F (maxL := 5) (ret := (some .boolean)) (n := 4) (as := [v0, v1, v2, v3]) (rest := rest) 1 rfl rfl (by decide +kernel) (by decide +kernel) (by decide +kernel) (by decide +kernel) (by decide +kernel) (by decide +kernel) hM rfl hR hw hd (fun r τ' hp => by obtain ⟨rfl, rfl⟩ := hp; exact k)
theorem i_P_67i (F : fx_ p s m args c cc nL R_P X) {v0 v1 v2 v3 : Value} {rest : List Value} {d : Nat} {z : Int32} {τ : sg} (hM : mt_ l X y_G_addPass w_G_addPass d [.ref (adr X 1), v0, v1, v2, v3] σ (ei_ z τ)) (hR : d + 1 ≤ R.frames ∧ 8 + (6 + 11) + 30 * d ≤ R.locals) (hw : (rest.map fun v => v.category).sum ≤ 8) (hd : decode cc pc = .ok (.invokevirtual 67, 3)) (k : vv_ p l e R s m args below meth c Q X nL L τ (pc + 3) (.int z :: rest)) : vv_ p l e R s m args below meth c Q X nL L σ pc (v3 :: v2 :: v1 :: v0 :: .ref (adr X 1) :: rest) :=
  qv_callV F (maxL := 6) (ret := (some .int)) (n := 4) (as := [v0, v1, v2, v3]) (rest := rest) 1 rfl rfl (by decide +kernel) (by decide +kernel) (by decide +kernel) (by decide +kernel) (by decide +kernel) (by decide +kernel) hM rfl hR hw hd (fun r τ' hp => by obtain ⟨rfl, rfl⟩ := hp; exact k)
theorem i_P_82i (F : fx_ p s m args c cc nL R_P X) {v0 v1 : Value} {rest : List Value} {d : Nat} {z : Int32} {τ : sg} (hM : mt_ l X y_P_isVariableIn w_P_isVariableIn d [.ref (adr X 0), v0, v1] σ (ei_ z τ)) (hR : d + 1 ≤ R.frames ∧ 8 + (3 + 11) + 30 * d ≤ R.locals) (hw : (rest.map fun v => v.category).sum ≤ 8) (hd : decode cc pc = .ok (.invokevirtual 82, 3)) (k : vv_ p l e R s m args below meth c Q X nL L τ (pc + 3) (.int z :: rest)) : vv_ p l e R s m args below meth c Q X nL L σ pc (v1 :: v0 :: .ref (adr X 0) :: rest) :=
  qv_callV F (maxL := 3) (ret := (some .boolean)) (n := 2) (as := [v0, v1]) (rest := rest) 0 rfl rfl (by decide +kernel) (by decide +kernel) (by decide +kernel) (by decide +kernel) (by decide +kernel) (by decide +kernel) hM rfl hR hw hd (fun r τ' hp => by obtain ⟨rfl, rfl⟩ := hp; exact k)
theorem i_P_85i (F : fx_ p s m args c cc nL R_P X) {v0 v1 : Value} {rest : List Value} {d : Nat} {z : Int32} {τ : sg} (hM : mt_ l X y_T_pointedTo w_T_pointedTo d [.ref (adr X 3), v0, v1] σ (ei_ z τ)) (hR : d + 1 ≤ R.frames ∧ 8 + (3 + 11) + 30 * d ≤ R.locals) (hw : (rest.map fun v => v.category).sum ≤ 8) (hd : decode cc pc = .ok (.invokevirtual 85, 3)) (k : vv_ p l e R s m args below meth c Q X nL L τ (pc + 3) (.int z :: rest)) : vv_ p l e R s m args below meth c Q X nL L σ pc (v1 :: v0 :: .ref (adr X 3) :: rest) :=
  qv_callV F (maxL := 3) (ret := (some .int)) (n := 2) (as := [v0, v1]) (rest := rest) 3 rfl rfl (by decide +kernel) (by decide +kernel) (by decide +kernel) (by decide +kernel) (by decide +kernel) (by decide +kernel) hM rfl hR hw hd (fun r τ' hp => by obtain ⟨rfl, rfl⟩ := hp; exact k)
theorem i_P_88i (F : fx_ p s m args c cc nL R_P X) {v0 v1 : Value} {rest : List Value} {d : Nat} {z : Int32} {τ : sg} (hM : mt_ l X y_T_heldIn w_T_heldIn d [.ref (adr X 3), v0, v1] σ (ei_ z τ)) (hR : d + 1 ≤ R.frames ∧ 8 + (3 + 11) + 30 * d ≤ R.locals) (hw : (rest.map fun v => v.category).sum ≤ 8) (hd : decode cc pc = .ok (.invokevirtual 88, 3)) (k : vv_ p l e R s m args below meth c Q X nL L τ (pc + 3) (.int z :: rest)) : vv_ p l e R s m args below meth c Q X nL L σ pc (v1 :: v0 :: .ref (adr X 3) :: rest) :=
  qv_callV F (maxL := 3) (ret := (some .int)) (n := 2) (as := [v0, v1]) (rest := rest) 3 rfl rfl (by decide +kernel) (by decide +kernel) (by decide +kernel) (by decide +kernel) (by decide +kernel) (by decide +kernel) hM rfl hR hw hd (fun r τ' hp => by obtain ⟨rfl, rfl⟩ := hp; exact k)
theorem i_P_100i (F : fx_ p s m args c cc nL R_P X) {v0 v1 : Value} {rest : List Value} {d : Nat} {z : Int32} {τ : sg} (hM : mt_ l X y_N_contextBy w_N_contextBy d [.ref (adr X 2), v0, v1] σ (ei_ z τ)) (hR : d + 1 ≤ R.frames ∧ 8 + (3 + 11) + 30 * d ≤ R.locals) (hw : (rest.map fun v => v.category).sum ≤ 8) (hd : decode cc pc = .ok (.invokevirtual 100, 3)) (k : vv_ p l e R s m args below meth c Q X nL L τ (pc + 3) (.int z :: rest)) : vv_ p l e R s m args below meth c Q X nL L σ pc (v1 :: v0 :: .ref (adr X 2) :: rest) :=
  qv_callV F (maxL := 3) (ret := (some .int)) (n := 2) (as := [v0, v1]) (rest := rest) 2 rfl rfl (by decide +kernel) (by decide +kernel) (by decide +kernel) (by decide +kernel) (by decide +kernel) (by decide +kernel) hM rfl hR hw hd (fun r τ' hp => by obtain ⟨rfl, rfl⟩ := hp; exact k)
theorem i_P_123i (F : fx_ p s m args c cc nL R_P X) {v0 : Value} {rest : List Value} {d : Nat} {z : Int32} {τ : sg} (hM : mt_ l X y_P_methodOf w_P_methodOf d [v0] σ (ei_ z τ)) (hR : d + 1 ≤ R.frames ∧ 8 + (1 + 11) + 30 * d ≤ R.locals) (hw : (rest.map fun v => v.category).sum ≤ 8) (hd : decode cc pc = .ok (.invokestatic 123, 3)) (k : vv_ p l e R s m args below meth c Q X nL L τ (pc + 3) (.int z :: rest)) : vv_ p l e R s m args below meth c Q X nL L σ pc (v0 :: rest) :=
  qv_callS F (maxL := 1) (ret := (some .int)) (n := 1) (as := [v0]) (rest := rest) (by decide +kernel) (by decide +kernel) (by decide +kernel) (by decide +kernel) (by decide +kernel) hM rfl hR hw hd (fun r τ' hp => by obtain ⟨rfl, rfl⟩ := hp; exact k)
theorem i_P_127i (F : fx_ p s m args c cc nL R_P X) {v0 v1 : Value} {rest : List Value} {d : Nat} {z : Int32} {τ : sg} (hM : mt_ l X y_P_isOfMethod w_P_isOfMethod d [v0, v1] σ (ei_ z τ)) (hR : d + 1 ≤ R.frames ∧ 8 + (2 + 11) + 30 * d ≤ R.locals) (hw : (rest.map fun v => v.category).sum ≤ 8) (hd : decode cc pc = .ok (.invokestatic 127, 3)) (k : vv_ p l e R s m args below meth c Q X nL L τ (pc + 3) (.int z :: rest)) : vv_ p l e R s m args below meth c Q X nL L σ pc (v1 :: v0 :: rest) :=
  qv_callS F (maxL := 2) (ret := (some .boolean)) (n := 2) (as := [v0, v1]) (rest := rest) (by decide +kernel) (by decide +kernel) (by decide +kernel) (by decide +kernel) (by decide +kernel) hM rfl hR hw hd (fun r τ' hp => by obtain ⟨rfl, rfl⟩ := hp; exact k)
theorem i_T_60i (F : fx_ p s m args c cc nL R_T X) {v0 v1 : Value} {rest : List Value} {d : Nat} {z : Int32} {τ : sg} (hM : mt_ l X y_P_hasBit w_P_hasBit d [v0, v1] σ (ei_ z τ)) (hR : d + 1 ≤ R.frames ∧ 8 + (2 + 11) + 30 * d ≤ R.locals) (hw : (rest.map fun v => v.category).sum ≤ 8) (hd : decode cc pc = .ok (.invokestatic 60, 3)) (k : vv_ p l e R s m args below meth c Q X nL L τ (pc + 3) (.int z :: rest)) : vv_ p l e R s m args below meth c Q X nL L σ pc (v1 :: v0 :: rest) :=
  qv_callSN F (host := R_P) (maxL := 2) (ret := (some .boolean)) (n := 2) (as := [v0, v1]) (rest := rest) (by decide +kernel) (by decide +kernel) (by decide +kernel) (by decide +kernel) (by decide +kernel) hM rfl hR hw hd (fun r τ' hp => by obtain ⟨rfl, rfl⟩ := hp; exact k)
theorem i_T_76i (F : fx_ p s m args c cc nL R_T X) {v0 : Value} {rest : List Value} {d : Nat} {z : Int32} {τ : sg} (hM : mt_ l X y_P_methodOf w_P_methodOf d [v0] σ (ei_ z τ)) (hR : d + 1 ≤ R.frames ∧ 8 + (1 + 11) + 30 * d ≤ R.locals) (hw : (rest.map fun v => v.category).sum ≤ 8) (hd : decode cc pc = .ok (.invokestatic 76, 3)) (k : vv_ p l e R s m args below meth c Q X nL L τ (pc + 3) (.int z :: rest)) : vv_ p l e R s m args below meth c Q X nL L σ pc (v0 :: rest) :=
  qv_callSN F (host := R_P) (maxL := 1) (ret := (some .int)) (n := 1) (as := [v0]) (rest := rest) (by decide +kernel) (by decide +kernel) (by decide +kernel) (by decide +kernel) (by decide +kernel) hM rfl hR hw hd (fun r τ' hp => by obtain ⟨rfl, rfl⟩ := hp; exact k)
theorem i_T_79v (F : fx_ p s m args c cc nL R_T X) {v0 v1 v2 : Value} {rest : List Value} {d : Nat} {τ : sg} (hM : mt_ l X y_T_applyStatement w_T_applyStatement d [.ref (adr X 3), v0, v1, v2] σ (ev_ τ)) (hR : d + 1 ≤ R.frames ∧ 8 + (7 + 11) + 30 * d ≤ R.locals) (hw : (rest.map fun v => v.category).sum ≤ 8) (hd : decode cc pc = .ok (.invokevirtual 79, 3)) (k : vv_ p l e R s m args below meth c Q X nL L τ (pc + 3) rest) : vv_ p l e R s m args below meth c Q X nL L σ pc (v2 :: v1 :: v0 :: .ref (adr X 3) :: rest) :=
  qv_callV F (maxL := 7) (ret := none) (n := 3) (as := [v0, v1, v2]) (rest := rest) 3 rfl rfl (by decide +kernel) (by decide +kernel) (by decide +kernel) (by decide +kernel) (by decide +kernel) (by decide +kernel) hM rfl hR hw hd (fun r τ' hp => by obtain ⟨rfl, rfl⟩ := hp; exact k)
theorem i_T_92v (F : fx_ p s m args c cc nL R_T X) {v0 v1 v2 : Value} {rest : List Value} {d : Nat} {τ : sg} (hM : mt_ l X y_T_addPointed w_T_addPointed d [.ref (adr X 3), v0, v1, v2] σ (ev_ τ)) (hR : d + 1 ≤ R.frames ∧ 8 + (4 + 11) + 30 * d ≤ R.locals) (hw : (rest.map fun v => v.category).sum ≤ 8) (hd : decode cc pc = .ok (.invokevirtual 92, 3)) (k : vv_ p l e R s m args below meth c Q X nL L τ (pc + 3) rest) : vv_ p l e R s m args below meth c Q X nL L σ pc (v2 :: v1 :: v0 :: .ref (adr X 3) :: rest) :=
  qv_callV F (maxL := 4) (ret := none) (n := 3) (as := [v0, v1, v2]) (rest := rest) 3 rfl rfl (by decide +kernel) (by decide +kernel) (by decide +kernel) (by decide +kernel) (by decide +kernel) (by decide +kernel) hM rfl hR hw hd (fun r τ' hp => by obtain ⟨rfl, rfl⟩ := hp; exact k)
theorem i_T_96i (F : fx_ p s m args c cc nL R_T X) {v0 v1 : Value} {rest : List Value} {d : Nat} {z : Int32} {τ : sg} (hM : mt_ l X y_T_pointedTo w_T_pointedTo d [.ref (adr X 3), v0, v1] σ (ei_ z τ)) (hR : d + 1 ≤ R.frames ∧ 8 + (3 + 11) + 30 * d ≤ R.locals) (hw : (rest.map fun v => v.category).sum ≤ 8) (hd : decode cc pc = .ok (.invokevirtual 96, 3)) (k : vv_ p l e R s m args below meth c Q X nL L τ (pc + 3) (.int z :: rest)) : vv_ p l e R s m args below meth c Q X nL L σ pc (v1 :: v0 :: .ref (adr X 3) :: rest) :=
  qv_callV F (maxL := 3) (ret := (some .int)) (n := 2) (as := [v0, v1]) (rest := rest) 3 rfl rfl (by decide +kernel) (by decide +kernel) (by decide +kernel) (by decide +kernel) (by decide +kernel) (by decide +kernel) hM rfl hR hw hd (fun r τ' hp => by obtain ⟨rfl, rfl⟩ := hp; exact k)
theorem i_T_100v (F : fx_ p s m args c cc nL R_T X) {v0 v1 v2 : Value} {rest : List Value} {d : Nat} {τ : sg} (hM : mt_ l X y_T_addHeld w_T_addHeld d [.ref (adr X 3), v0, v1, v2] σ (ev_ τ)) (hR : d + 1 ≤ R.frames ∧ 8 + (5 + 11) + 30 * d ≤ R.locals) (hw : (rest.map fun v => v.category).sum ≤ 8) (hd : decode cc pc = .ok (.invokevirtual 100, 3)) (k : vv_ p l e R s m args below meth c Q X nL L τ (pc + 3) rest) : vv_ p l e R s m args below meth c Q X nL L σ pc (v2 :: v1 :: v0 :: .ref (adr X 3) :: rest) :=
  qv_callV F (maxL := 5) (ret := none) (n := 3) (as := [v0, v1, v2]) (rest := rest) 3 rfl rfl (by decide +kernel) (by decide +kernel) (by decide +kernel) (by decide +kernel) (by decide +kernel) (by decide +kernel) hM rfl hR hw hd (fun r τ' hp => by obtain ⟨rfl, rfl⟩ := hp; exact k)
theorem i_T_103i (F : fx_ p s m args c cc nL R_T X) {v0 v1 : Value} {rest : List Value} {d : Nat} {z : Int32} {τ : sg} (hM : mt_ l X y_T_heldInAny w_T_heldInAny d [.ref (adr X 3), v0, v1] σ (ei_ z τ)) (hR : d + 1 ≤ R.frames ∧ 8 + (5 + 11) + 30 * d ≤ R.locals) (hw : (rest.map fun v => v.category).sum ≤ 8) (hd : decode cc pc = .ok (.invokevirtual 103, 3)) (k : vv_ p l e R s m args below meth c Q X nL L τ (pc + 3) (.int z :: rest)) : vv_ p l e R s m args below meth c Q X nL L σ pc (v1 :: v0 :: .ref (adr X 3) :: rest) :=
  qv_callV F (maxL := 5) (ret := (some .int)) (n := 2) (as := [v0, v1]) (rest := rest) 3 rfl rfl (by decide +kernel) (by decide +kernel) (by decide +kernel) (by decide +kernel) (by decide +kernel) (by decide +kernel) hM rfl hR hw hd (fun r τ' hp => by obtain ⟨rfl, rfl⟩ := hp; exact k)
theorem i_T_112i (F : fx_ p s m args c cc nL R_T X) {v0 v1 : Value} {rest : List Value} {d : Nat} {z : Int32} {τ : sg} (hM : mt_ l X y_N_contextBy w_N_contextBy d [.ref (adr X 2), v0, v1] σ (ei_ z τ)) (hR : d + 1 ≤ R.frames ∧ 8 + (3 + 11) + 30 * d ≤ R.locals) (hw : (rest.map fun v => v.category).sum ≤ 8) (hd : decode cc pc = .ok (.invokevirtual 112, 3)) (k : vv_ p l e R s m args below meth c Q X nL L τ (pc + 3) (.int z :: rest)) : vv_ p l e R s m args below meth c Q X nL L σ pc (v1 :: v0 :: .ref (adr X 2) :: rest) :=
  qv_callV F (maxL := 3) (ret := (some .int)) (n := 2) (as := [v0, v1]) (rest := rest) 2 rfl rfl (by decide +kernel) (by decide +kernel) (by decide +kernel) (by decide +kernel) (by decide +kernel) (by decide +kernel) hM rfl hR hw hd (fun r τ' hp => by obtain ⟨rfl, rfl⟩ := hp; exact k)
theorem i_T_115v (F : fx_ p s m args c cc nL R_T X) {v0 v1 v2 v3 : Value} {rest : List Value} {d : Nat} {τ : sg} (hM : mt_ l X y_T_applyPasses w_T_applyPasses d [.ref (adr X 3), v0, v1, v2, v3] σ (ev_ τ)) (hR : d + 1 ≤ R.frames ∧ 8 + (10 + 11) + 30 * d ≤ R.locals) (hw : (rest.map fun v => v.category).sum ≤ 8) (hd : decode cc pc = .ok (.invokevirtual 115, 3)) (k : vv_ p l e R s m args below meth c Q X nL L τ (pc + 3) rest) : vv_ p l e R s m args below meth c Q X nL L σ pc (v3 :: v2 :: v1 :: v0 :: .ref (adr X 3) :: rest) :=
  qv_callV F (maxL := 10) (ret := none) (n := 4) (as := [v0, v1, v2, v3]) (rest := rest) 3 rfl rfl (by decide +kernel) (by decide +kernel) (by decide +kernel) (by decide +kernel) (by decide +kernel) (by decide +kernel) hM rfl hR hw hd (fun r τ' hp => by obtain ⟨rfl, rfl⟩ := hp; exact k)
theorem i_T_132v (F : fx_ p s m args c cc nL R_T X) {v0 v1 v2 : Value} {rest : List Value} {d : Nat} {τ : sg} (hM : mt_ l X y_T_addTo w_T_addTo d [.ref (adr X 3), v0, v1, v2] σ (ev_ τ)) (hR : d + 1 ≤ R.frames ∧ 8 + (5 + 11) + 30 * d ≤ R.locals) (hw : (rest.map fun v => v.category).sum ≤ 8) (hd : decode cc pc = .ok (.invokevirtual 132, 3)) (k : vv_ p l e R s m args below meth c Q X nL L τ (pc + 3) rest) : vv_ p l e R s m args below meth c Q X nL L σ pc (v2 :: v1 :: v0 :: .ref (adr X 3) :: rest) :=
  qv_callV F (maxL := 5) (ret := none) (n := 3) (as := [v0, v1, v2]) (rest := rest) 3 rfl rfl (by decide +kernel) (by decide +kernel) (by decide +kernel) (by decide +kernel) (by decide +kernel) (by decide +kernel) hM rfl hR hw hd (fun r τ' hp => by obtain ⟨rfl, rfl⟩ := hp; exact k)
theorem i_T_136i (F : fx_ p s m args c cc nL R_T X) {v0 v1 : Value} {rest : List Value} {d : Nat} {z : Int32} {τ : sg} (hM : mt_ l X y_T_heldIn w_T_heldIn d [.ref (adr X 3), v0, v1] σ (ei_ z τ)) (hR : d + 1 ≤ R.frames ∧ 8 + (3 + 11) + 30 * d ≤ R.locals) (hw : (rest.map fun v => v.category).sum ≤ 8) (hd : decode cc pc = .ok (.invokevirtual 136, 3)) (k : vv_ p l e R s m args below meth c Q X nL L τ (pc + 3) (.int z :: rest)) : vv_ p l e R s m args below meth c Q X nL L σ pc (v1 :: v0 :: .ref (adr X 3) :: rest) :=
  qv_callV F (maxL := 3) (ret := (some .int)) (n := 2) (as := [v0, v1]) (rest := rest) 3 rfl rfl (by decide +kernel) (by decide +kernel) (by decide +kernel) (by decide +kernel) (by decide +kernel) (by decide +kernel) hM rfl hR hw hd (fun r τ' hp => by obtain ⟨rfl, rfl⟩ := hp; exact k)
end RW
end
section
/-! the JDK's: Arrays.fill, Integer.bitCount -/
set_option maxRecDepth 100000 in
set_option maxHeartbeats 4000000 in
theorem c_A_fill (l : Launch) (X : wX) (σ : sg) (q n x : Nat) (hq : dz_[q]? = some (.inl (false, n))) (hnq : n < 2 ^ 31) : mt_ l X y_A_fill w_A_fill 0 [.ref (adr X q), .int (nI x)] σ (ev_ (ua σ q (fun _ => x))) := by
  refine mt_of (own := R_A) rfl pl_A (Nat.le_of_ble_eq_true rfl) ?_
  intro zp ze zs zm za zb zt zc F hr hlk
  refine qv_sub (L' := [(0, _), (1, _)]) [0, 1] rfl ?_
  refine qv_iconst F (nI 0) d_A_fill_0 ic_0 ?_
  refine qv_istore_n (L' := [(2, _), (0, _), (1, _)]) F d_A_fill_1 (by decide) rfl ?_
  refine qv_aload_n F d_A_fill_2 1 rfl ?_
  refine qv_alen F q hq d_A_fill_3 ?_
  refine qv_istore_n (L' := [(3, _), (2, _), (0, _), (1, _)]) F d_A_fill_4 (by decide) rfl ?_
  have lp := lu_up (fun i (g : Nat → Nat) => vv_ zp l ze (rr_ 0) zs zm za zb zt zc (MQ zb (mq_ X (ev_ (ua σ q (fun _ => x)))) za zs 0 0 (aw_ X)) X 4 [(2, .int (nI i)), (3, .int (nI n)), (0, .ref (adr X q)), (1, .int (nI x))] (ua σ q g) 5 []) (fun i g => ∀ k, k < i → g k = x) n ?_ ?_ 0 (σ q) (Nat.zero_le _) (fun k hk => by omega)
  ·
    refine qv_sub (L' := [(2, _), (3, _), (0, _), (1, _)]) [1, 0, 2, 3] rfl ?_
    exact qv_st (ua_id σ q).symm lp
  · intro g hg
    refine qv_iload_n F d_A_fill_5 0 rfl ?_
    refine qv_iload_n F d_A_fill_6 1 rfl ?_
    refine qv_icmpge F d_A_fill_7 rfl (by omega) (by omega) (fun hb => ?_) (fun hb => ?_)
    ·
      refine qv_ext q (z := false) (n := n) (g := fun _ => x) hq (fun k hk => by rw [ua_eq]; exact (hg k hk).symm) ?_
      exact qv_ret F hr hlk d_A_fill_20 (ev_of (ua_ua σ q g _))
    ·
      omega
  · intro i g hi hg ih
    refine qv_iload_n F d_A_fill_5 0 rfl ?_
    refine qv_iload_n F d_A_fill_6 1 rfl ?_
    refine qv_icmpge F d_A_fill_7 rfl (by omega) (by omega) (fun hb => ?_) (fun hb => ?_)
    ·
      omega
    ·
      refine qv_aload_n F d_A_fill_10 2 rfl ?_
      refine qv_iload_n F d_A_fill_11 0 rfl ?_
      refine qv_iload_n F d_A_fill_12 3 rfl ?_
      refine qv_iast F q hq hi hnq d_A_fill_13 ?_
      refine qv_st (us_ua σ q g i x) ?_
      refine qv_iinc (L' := [(2, _), (3, _), (0, _), (1, _)]) F _ d_A_fill_14 0 rfl (ii_1 _) (by decide) rfl ?_
      refine qv_goto F d_A_fill_17 rfl ?_
      refine ih _ (fun k hk => ?_)
      by_cases ek : k = i
      · subst ek; exact up_eq _ _ _
      · rw [up_ne ek]; exact hg k (by omega)
end
section
/-! the class's helpers -/
set_option maxRecDepth 100000 in
set_option maxHeartbeats 4000000 in
theorem c_P_isWithin (l : Launch) (X : wX) (σ : sg) (x : Int32) (n : Nat) (hn : n < 2 ^ 31) : mt_ l X y_P_isWithin w_P_isWithin 0 [.int x, .int (nI n)] σ (ei_ (nI (wi_ x n).toNat) σ) := by
  refine mt_of (own := R_P) rfl pl_P (Nat.le_of_ble_eq_true rfl) ?_
  intro zp ze zs zm za zb zt zc F hr hlk
  refine qv_sub (L' := [(0, _), (1, _)]) [0, 1] rfl ?_
  refine qv_iload_n F d_P_isWithin_0 0 rfl ?_
  refine qv_iflt F d_P_isWithin_1 rfl (fun hb => ?_) (fun hb => ?_)
  ·
    refine qv_iconst F (nI 0) d_P_isWithin_13 ic_0 ?_
    exact qv_zret F hr hlk (by first | exact Or.inl rfl | exact Or.inr rfl | exact bz_01 _) d_P_isWithin_14 (ei_of (by rw [wi_neg hb]; rfl) rfl)
  ·
    have h0 := hb
    refine qv_iload_n F d_P_isWithin_4 0 rfl ?_
    refine qv_iload_n F d_P_isWithin_5 1 rfl ?_
    refine qv_icmpgeI F d_P_isWithin_6 rfl (fun hb => ?_) (fun hb => ?_)
    ·
      refine qv_iconst F (nI 0) d_P_isWithin_13 ic_0 ?_
      exact qv_zret F hr hlk (by first | exact Or.inl rfl | exact Or.inr rfl | exact bz_01 _) d_P_isWithin_14 (ei_of (by rw [wi_ge hn hb]; rfl) rfl)
    ·
      refine qv_iconst F (nI 1) d_P_isWithin_9 ic_1 ?_
      refine qv_goto F d_P_isWithin_10 rfl ?_
      exact qv_zret F hr hlk (by first | exact Or.inl rfl | exact Or.inr rfl | exact bz_01 _) d_P_isWithin_14 (ei_of (by rw [wi_in hn h0 hb]; rfl) rfl)
set_option maxRecDepth 100000 in
set_option maxHeartbeats 4000000 in
theorem c_P_methodOf (l : Launch) (X : wX) (σ : sg) (v : Nat) (hv : v < 2 ^ 31) : mt_ l X y_P_methodOf w_P_methodOf 0 [.int (nI v)] σ (ei_ (nI (v / 4)) σ) := by
  refine mt_of (own := R_P) rfl pl_P (Nat.le_of_ble_eq_true rfl) ?_
  intro zp ze zs zm za zb zt zc F hr hlk
  refine qv_sub (L' := [(0, _)]) [0] rfl ?_
  refine qv_iload_n F d_P_methodOf_0 0 rfl ?_
  refine qv_iconst F (nI 4) d_P_methodOf_1 ic_4 ?_
  refine qv_idiv F d_P_methodOf_2 hv (by decide) (by decide) ?_
  exact qv_iret F hr hlk d_P_methodOf_3 (ei_of rfl rfl)
set_option maxRecDepth 100000 in
set_option maxHeartbeats 4000000 in
theorem c_P_hasBit (l : Launch) (X : wX) (σ : sg) (a b : Nat) (ha : a < 2 ^ 31) (hb : b < 32) : mt_ l X y_P_hasBit w_P_hasBit 0 [.int (nI a), .int (nI b)] σ (ei_ (nI (a.testBit b).toNat) σ) := by
  refine mt_of (own := R_P) rfl pl_P (Nat.le_of_ble_eq_true rfl) ?_
  intro zp ze zs zm za zb zt zc F hr hlk
  refine qv_sub (L' := [(0, _), (1, _)]) [0, 1] rfl ?_
  refine qv_iload_n F d_P_hasBit_0 0 rfl ?_
  refine qv_iload_n F d_P_hasBit_1 1 rfl ?_
  refine qv_ishr F d_P_hasBit_2 hb ha ?_
  refine qv_iconst F (nI 1) d_P_hasBit_3 ic_1 ?_
  refine qv_iand F d_P_hasBit_4 ?_
  rw [bt_and]
  refine qv_ifeqB F d_P_hasBit_5 rfl (fun hb => ?_) (fun hb => ?_)
  ·
    refine qv_iconst F (nI 0) d_P_hasBit_12 ic_0 ?_
    exact qv_zret F hr hlk (by first | exact Or.inl rfl | exact Or.inr rfl | exact bz_01 _) d_P_hasBit_13 (ei_of (by rw [hb]; rfl) rfl)
  ·
    refine qv_iconst F (nI 1) d_P_hasBit_8 ic_1 ?_
    refine qv_goto F d_P_hasBit_9 rfl ?_
    exact qv_zret F hr hlk (by first | exact Or.inl rfl | exact Or.inr rfl | exact bz_01 _) d_P_hasBit_13 (ei_of (by rw [hb]; rfl) rfl)
set_option maxRecDepth 100000 in
set_option maxHeartbeats 4000000 in
theorem c_P_isOfMethod (l : Launch) (X : wX) (σ : sg) (x : Int32) (n : Nat) (hn : n < 2 ^ 31) : mt_ l X y_P_isOfMethod w_P_isOfMethod 1 [.int x, .int (nI n)] σ (ei_ (nI (wi_ x 16 && decide (tn_ x / 4 = n)).toNat) σ) := by
  refine mt_of (own := R_P) rfl pl_P (Nat.le_of_ble_eq_true rfl) ?_
  intro zp ze zs zm za zb zt zc F hr hlk
  refine qv_sub (L' := [(0, _), (1, _)]) [0, 1] rfl ?_
  refine qv_iload_n F d_P_isOfMethod_0 0 rfl ?_
  refine qv_bipush F (nI 16) d_P_isOfMethod_1 bic_16 ?_
  refine i_P_41i F (c_P_isWithin l X σ x 16 (by decide)) (by decide) (Nat.le_of_ble_eq_true rfl) d_P_isOfMethod_3 ?_
  refine qv_ifeqB F d_P_isOfMethod_6 rfl (fun hb => ?_) (fun hb => ?_)
  ·
    refine qv_iconst F (nI 0) d_P_isOfMethod_21 ic_0 ?_
    exact qv_zret F hr hlk (by first | exact Or.inl rfl | exact Or.inr rfl | exact bz_01 _) d_P_isOfMethod_22 (ei_of (by rw [hb]; rfl) rfl)
  ·
    rw [hb]
    obtain ⟨j, hj, rfl⟩ := wi_t (by decide) hb
    refine qv_iload_n F d_P_isOfMethod_9 0 rfl ?_
    refine i_P_123i F (c_P_methodOf l X σ j (by omega)) (by decide) (Nat.le_of_ble_eq_true rfl) d_P_isOfMethod_10 ?_
    rw [tn_nI (by omega)]
    refine qv_iload_n F d_P_isOfMethod_13 1 rfl ?_
    refine qv_icmpne F d_P_isOfMethod_14 rfl (by omega) (by omega) (fun hb => ?_) (fun hb => ?_)
    ·
      refine qv_iconst F (nI 0) d_P_isOfMethod_21 ic_0 ?_
      exact qv_zret F hr hlk (by first | exact Or.inl rfl | exact Or.inr rfl | exact bz_01 _) d_P_isOfMethod_22 (ei_of (by rw [decide_eq_false hb]; rfl) rfl)
    ·
      refine qv_iconst F (nI 1) d_P_isOfMethod_17 ic_1 ?_
      refine qv_goto F d_P_isOfMethod_18 rfl ?_
      exact qv_zret F hr hlk (by first | exact Or.inl rfl | exact Or.inr rfl | exact bz_01 _) d_P_isOfMethod_22 (ei_of (by rw [decide_eq_true hb]; rfl) rfl)
set_option maxRecDepth 100000 in
set_option maxHeartbeats 4000000 in
theorem c_P_areOfOneMethod (l : Launch) (X : wX) (σ : sg) (x y : Int32) : mt_ l X y_P_areOfOneMethod w_P_areOfOneMethod 2 [.int x, .int y] σ (ei_ (nI (wi_ y 16 && (wi_ x 16 && decide (tn_ x / 4 = tn_ y / 4))).toNat) σ) := by
  refine mt_of (own := R_P) rfl pl_P (Nat.le_of_ble_eq_true rfl) ?_
  intro zp ze zs zm za zb zt zc F hr hlk
  refine qv_sub (L' := [(0, _), (1, _)]) [0, 1] rfl ?_
  refine qv_iload_n F d_P_areOfOneMethod_0 1 rfl ?_
  refine qv_bipush F (nI 16) d_P_areOfOneMethod_1 bic_16 ?_
  refine i_P_41i F (c_P_isWithin l X σ y 16 (by decide)) (by decide) (Nat.le_of_ble_eq_true rfl) d_P_areOfOneMethod_3 ?_
  refine qv_ifeqB F d_P_areOfOneMethod_6 rfl (fun hb => ?_) (fun hb => ?_)
  ·
    refine qv_iconst F (nI 0) d_P_areOfOneMethod_24 ic_0 ?_
    exact qv_zret F hr hlk (by first | exact Or.inl rfl | exact Or.inr rfl | exact bz_01 _) d_P_areOfOneMethod_25 (ei_of (by rw [hb]; rfl) rfl)
  ·
    rw [hb]
    obtain ⟨j, hj, rfl⟩ := wi_t (by decide) hb
    refine qv_iload_n F d_P_areOfOneMethod_9 0 rfl ?_
    refine qv_iload_n F d_P_areOfOneMethod_10 1 rfl ?_
    refine i_P_123i F (c_P_methodOf l X σ j (by omega)) (by decide) (Nat.le_of_ble_eq_true rfl) d_P_areOfOneMethod_11 ?_
    rw [tn_nI (by omega)]
    refine i_P_127i F (c_P_isOfMethod l X σ x (j / 4) (by omega)) (by decide) (Nat.le_of_ble_eq_true rfl) d_P_areOfOneMethod_14 ?_
    refine qv_ifeqB F d_P_areOfOneMethod_17 rfl (fun hb => ?_) (fun hb => ?_)
    ·
      refine qv_iconst F (nI 0) d_P_areOfOneMethod_24 ic_0 ?_
      exact qv_zret F hr hlk (by first | exact Or.inl rfl | exact Or.inr rfl | exact bz_01 _) d_P_areOfOneMethod_25 (ei_of (by rw [hb]; rfl) rfl)
    ·
      refine qv_iconst F (nI 1) d_P_areOfOneMethod_20 ic_1 ?_
      refine qv_goto F d_P_areOfOneMethod_21 rfl ?_
      exact qv_zret F hr hlk (by first | exact Or.inl rfl | exact Or.inr rfl | exact bz_01 _) d_P_areOfOneMethod_25 (ei_of (by rw [hb]; rfl) rfl)
end
section
/-! what has been told -/
def as_ (σ : sg) (a v w f : Nat) : sg := us (us (us (us (us σ 7 (σ 1 2) a) 8 (σ 1 2) v) 9 (σ 1 2) w) 10 (σ 1 2) f) 1 2 (σ 1 2 + 1)
set_option maxRecDepth 100000 in
set_option maxHeartbeats 4000000 in
theorem c_G_addStatement (l : Launch) (X : wX) (σ : sg) (a v w f : Nat) (hs : σ 1 2 ≤ 40) : mt_ l X y_G_addStatement w_G_addStatement 0 [.ref (adr X 1), .int (nI a), .int (nI v), .int (nI w), .int (nI f)] σ (ei_ (if σ 1 2 < 40 then nI (σ 1 2 + 1) else -2) (if σ 1 2 < 40 then as_ σ a v w f else σ)) := by
  refine mt_of (own := R_G) rfl pl_G (Nat.le_of_ble_eq_true rfl) ?_
  intro zp ze zs zm za zb zt zc F hr hlk
  refine qv_sub (L' := [(0, _), (1, _), (2, _), (3, _), (4, _)]) [0, 1, 2, 3, 4] rfl ?_
  refine qv_aload_n F d_G_addStatement_0 0 rfl ?_
  refine g_G_18 F d_G_addStatement_1 ?_
  refine qv_bipush F (nI 40) d_G_addStatement_4 bic_40 ?_
  refine qv_icmplt F d_G_addStatement_6 rfl (by omega) (by omega) (fun hb => ?_) (fun hb => ?_)
  ·
    refine qv_aload_n F d_G_addStatement_12 0 rfl ?_
    refine g_G_22 F d_G_addStatement_13 ?_
    refine qv_aload_n F d_G_addStatement_16 0 rfl ?_
    refine g_G_18 F d_G_addStatement_17 ?_
    refine qv_iload_n F d_G_addStatement_20 1 rfl ?_
    refine sv_7 F hb d_G_addStatement_21 ?_
    refine qv_aload_n F d_G_addStatement_22 0 rfl ?_
    refine g_G_25 F d_G_addStatement_23 ?_
    refine qv_aload_n F d_G_addStatement_26 0 rfl ?_
    refine g_G_18 F d_G_addStatement_27 ?_
    refine qv_iload_n F d_G_addStatement_30 2 rfl ?_
    refine sv_8 F hb d_G_addStatement_31 ?_
    refine qv_aload_n F d_G_addStatement_32 0 rfl ?_
    refine g_G_28 F d_G_addStatement_33 ?_
    refine qv_aload_n F d_G_addStatement_36 0 rfl ?_
    refine g_G_18 F d_G_addStatement_37 ?_
    refine qv_iload_n F d_G_addStatement_40 3 rfl ?_
    refine sv_9 F hb d_G_addStatement_41 ?_
    refine qv_aload_n F d_G_addStatement_42 0 rfl ?_
    refine g_G_31 F d_G_addStatement_43 ?_
    refine qv_aload_n F d_G_addStatement_46 0 rfl ?_
    refine g_G_18 F d_G_addStatement_47 ?_
    refine qv_iload F d_G_addStatement_50 4 rfl ?_
    refine sv_10 F hb d_G_addStatement_52 ?_
    refine qv_aload_n F d_G_addStatement_53 0 rfl ?_
    refine qv_dup F d_G_addStatement_54 rfl ?_
    refine g_G_18 F d_G_addStatement_55 ?_
    refine qv_iconst F (nI 1) d_G_addStatement_58 ic_1 ?_
    refine qv_iadd F d_G_addStatement_59 ?_
    refine p_G_18 F d_G_addStatement_60 ?_
    refine qv_aload_n F d_G_addStatement_63 0 rfl ?_
    refine g_G_18 F d_G_addStatement_64 ?_
    rw [if_pos hb, if_pos hb]
    exact qv_iret F hr hlk d_G_addStatement_67 (ei_of rfl rfl)
  ·
    refine qv_bipush F (-2) d_G_addStatement_9 bic_m2 ?_
    rw [if_neg (by omega), if_neg (by omega)]
    exact qv_iret F hr hlk d_G_addStatement_11 (ei_of rfl rfl)
def ac_ (σ : sg) (a b : Nat) : sg := us (us (us σ 11 (σ 1 7) a) 12 (σ 1 7) b) 1 7 (σ 1 7 + 1)
set_option maxRecDepth 100000 in
set_option maxHeartbeats 4000000 in
theorem c_G_addCall (l : Launch) (X : wX) (σ : sg) (a b : Nat) (hs : σ 1 7 ≤ 8) : mt_ l X y_G_addCall w_G_addCall 0 [.ref (adr X 1), .int (nI a), .int (nI b)] σ (ei_ (if σ 1 7 < 8 then nI (σ 1 7) else -2) (if σ 1 7 < 8 then ac_ σ a b else σ)) := by
  refine mt_of (own := R_G) rfl pl_G (Nat.le_of_ble_eq_true rfl) ?_
  intro zp ze zs zm za zb zt zc F hr hlk
  refine qv_sub (L' := [(0, _), (1, _), (2, _)]) [0, 1, 2] rfl ?_
  refine qv_aload_n F d_G_addCall_0 0 rfl ?_
  refine g_G_34 F d_G_addCall_1 ?_
  refine qv_bipush F (nI 8) d_G_addCall_4 bic_8 ?_
  refine qv_icmplt F d_G_addCall_6 rfl (by omega) (by omega) (fun hb => ?_) (fun hb => ?_)
  ·
    refine qv_aload_n F d_G_addCall_12 0 rfl ?_
    refine g_G_37 F d_G_addCall_13 ?_
    refine qv_aload_n F d_G_addCall_16 0 rfl ?_
    refine g_G_34 F d_G_addCall_17 ?_
    refine qv_iload_n F d_G_addCall_20 1 rfl ?_
    refine sv_11 F hb d_G_addCall_21 ?_
    refine qv_aload_n F d_G_addCall_22 0 rfl ?_
    refine g_G_40 F d_G_addCall_23 ?_
    refine qv_aload_n F d_G_addCall_26 0 rfl ?_
    refine g_G_34 F d_G_addCall_27 ?_
    refine qv_iload_n F d_G_addCall_30 2 rfl ?_
    refine sv_12 F hb d_G_addCall_31 ?_
    refine qv_aload_n F d_G_addCall_32 0 rfl ?_
    refine qv_dup F d_G_addCall_33 rfl ?_
    refine g_G_34 F d_G_addCall_34 ?_
    refine qv_iconst F (nI 1) d_G_addCall_37 ic_1 ?_
    refine qv_iadd F d_G_addCall_38 ?_
    refine p_G_34 F d_G_addCall_39 ?_
    refine qv_aload_n F d_G_addCall_42 0 rfl ?_
    refine g_G_34 F d_G_addCall_43 ?_
    refine qv_iconst F (nI 1) d_G_addCall_46 ic_1 ?_
    refine qv_isub F d_G_addCall_47 (by show 1 ≤ σ 1 7 + 1; omega) ?_
    rw [if_pos hb, if_pos hb]
    exact qv_iret F hr hlk d_G_addCall_48 (ei_of rfl rfl)
  ·
    refine qv_bipush F (-2) d_G_addCall_9 bic_m2 ?_
    rw [if_neg (by omega), if_neg (by omega)]
    exact qv_iret F hr hlk d_G_addCall_11 (ei_of rfl rfl)
/-- may a pass be told -/
def of_ (x : Int32) (n : Nat) : Bool := wi_ x 16 && decide (tn_ x / 4 = n)
def mp_ (t : sg) (n : Nat) (x y z : Int32) (b : Bool) : Bool := wi_ x n && (if b = true then of_ y (t 11 (tn_ x)) && of_ z (t 12 (tn_ x)) else of_ y (t 12 (tn_ x)) && of_ z (t 11 (tn_ x)))
set_option maxRecDepth 100000 in
set_option maxHeartbeats 4000000 in
theorem c_G_mayPass (l : Launch) (X : wX) (σ : sg) (x y z : Int32) (b : Bool) (hs : σ 1 7 ≤ 8) (h11 : ∀ k, σ 11 k < 4) (h12 : ∀ k, σ 12 k < 4) : mt_ l X y_G_mayPass w_G_mayPass 2 [.ref (adr X 1), .int x, .int y, .int z, .int (nI b.toNat)] σ (ei_ (nI (mp_ σ (σ 1 7) x y z b).toNat) σ) := by
  refine mt_of (own := R_G) rfl pl_G (Nat.le_of_ble_eq_true rfl) ?_
  intro zp ze zs zm za zb zt zc F hr hlk
  refine qv_sub (L' := [(0, _), (1, _), (2, _), (3, _), (4, _)]) [0, 1, 2, 3, 4] rfl ?_
  refine qv_iload_n F d_G_mayPass_0 1 rfl ?_
  refine qv_aload_n F d_G_mayPass_1 0 rfl ?_
  refine g_G_34 F d_G_mayPass_2 ?_
  refine i_G_62i F (c_P_isWithin l X σ x (σ 1 7) (by omega)) (by decide) (Nat.le_of_ble_eq_true rfl) d_G_mayPass_5 ?_
  refine qv_ifneB F d_G_mayPass_8 rfl (fun hb => ?_) (fun hb => ?_)
  ·
    have hx := hb
    obtain ⟨j, hj, rfl⟩ := wi_t (by omega) hb
    have e : tn_ (nI j) = j := tn_nI (by omega)
    have q1 := h11 j
    have q2 := h12 j
    refine qv_iload F d_G_mayPass_13 4 rfl ?_
    refine qv_ifeqB F d_G_mayPass_15 rfl (fun hb => ?_) (fun hb => ?_)
    ·
      subst hb
      refine qv_iload_n F d_G_mayPass_50 2 rfl ?_
      refine qv_aload_n F d_G_mayPass_51 0 rfl ?_
      refine g_G_40 F d_G_mayPass_52 ?_
      refine qv_iload_n F d_G_mayPass_55 1 rfl ?_
      refine ld_12 F (by omega) d_G_mayPass_56 ?_
      refine i_G_66i F (c_P_isOfMethod l X σ y (σ 12 j) (by omega)) (by decide) (Nat.le_of_ble_eq_true rfl) d_G_mayPass_57 ?_
      refine qv_ifeqB F d_G_mayPass_60 rfl (fun hb => ?_) (fun hb => ?_)
      ·
        refine qv_iconst F (nI 0) d_G_mayPass_80 ic_0 ?_
        exact qv_zret F hr hlk (by first | exact Or.inl rfl | exact Or.inr rfl | exact bz_01 _) d_G_mayPass_81 (ei_of (by unfold mp_ of_; rw [hx, e, hb]; rfl) rfl)
      ·
        have hy := hb
        refine qv_iload_n F d_G_mayPass_63 3 rfl ?_
        refine qv_aload_n F d_G_mayPass_64 0 rfl ?_
        refine g_G_37 F d_G_mayPass_65 ?_
        refine qv_iload_n F d_G_mayPass_68 1 rfl ?_
        refine ld_11 F (by omega) d_G_mayPass_69 ?_
        refine i_G_66i F (c_P_isOfMethod l X σ z (σ 11 j) (by omega)) (by decide) (Nat.le_of_ble_eq_true rfl) d_G_mayPass_70 ?_
        refine qv_ifeqB F d_G_mayPass_73 rfl (fun hb => ?_) (fun hb => ?_)
        ·
          refine qv_iconst F (nI 0) d_G_mayPass_80 ic_0 ?_
          exact qv_zret F hr hlk (by first | exact Or.inl rfl | exact Or.inr rfl | exact bz_01 _) d_G_mayPass_81 (ei_of (by unfold mp_ of_; rw [hx, e, hy, hb]; rfl) rfl)
        ·
          refine qv_iconst F (nI 1) d_G_mayPass_76 ic_1 ?_
          refine qv_goto F d_G_mayPass_77 rfl ?_
          exact qv_zret F hr hlk (by first | exact Or.inl rfl | exact Or.inr rfl | exact bz_01 _) d_G_mayPass_81 (ei_of (by unfold mp_ of_; rw [hx, e, hy, hb]; rfl) rfl)
    ·
      subst hb
      refine qv_iload_n F d_G_mayPass_18 2 rfl ?_
      refine qv_aload_n F d_G_mayPass_19 0 rfl ?_
      refine g_G_37 F d_G_mayPass_20 ?_
      refine qv_iload_n F d_G_mayPass_23 1 rfl ?_
      refine ld_11 F (by omega) d_G_mayPass_24 ?_
      refine i_G_66i F (c_P_isOfMethod l X σ y (σ 11 j) (by omega)) (by decide) (Nat.le_of_ble_eq_true rfl) d_G_mayPass_25 ?_
      refine qv_ifeqB F d_G_mayPass_28 rfl (fun hb => ?_) (fun hb => ?_)
      ·
        refine qv_iconst F (nI 0) d_G_mayPass_48 ic_0 ?_
        exact qv_zret F hr hlk (by first | exact Or.inl rfl | exact Or.inr rfl | exact bz_01 _) d_G_mayPass_49 (ei_of (by unfold mp_ of_; rw [hx, e, hb]; rfl) rfl)
      ·
        have hy := hb
        refine qv_iload_n F d_G_mayPass_31 3 rfl ?_
        refine qv_aload_n F d_G_mayPass_32 0 rfl ?_
        refine g_G_40 F d_G_mayPass_33 ?_
        refine qv_iload_n F d_G_mayPass_36 1 rfl ?_
        refine ld_12 F (by omega) d_G_mayPass_37 ?_
        refine i_G_66i F (c_P_isOfMethod l X σ z (σ 12 j) (by omega)) (by decide) (Nat.le_of_ble_eq_true rfl) d_G_mayPass_38 ?_
        refine qv_ifeqB F d_G_mayPass_41 rfl (fun hb => ?_) (fun hb => ?_)
        ·
          refine qv_iconst F (nI 0) d_G_mayPass_48 ic_0 ?_
          exact qv_zret F hr hlk (by first | exact Or.inl rfl | exact Or.inr rfl | exact bz_01 _) d_G_mayPass_49 (ei_of (by unfold mp_ of_; rw [hx, e, hy, hb]; rfl) rfl)
        ·
          refine qv_iconst F (nI 1) d_G_mayPass_44 ic_1 ?_
          refine qv_goto F d_G_mayPass_45 rfl ?_
          exact qv_zret F hr hlk (by first | exact Or.inl rfl | exact Or.inr rfl | exact bz_01 _) d_G_mayPass_49 (ei_of (by unfold mp_ of_; rw [hx, e, hy, hb]; rfl) rfl)
  ·
    refine qv_iconst F (nI 0) d_G_mayPass_11 ic_0 ?_
    exact qv_zret F hr hlk (by first | exact Or.inl rfl | exact Or.inr rfl | exact bz_01 _) d_G_mayPass_12 (ei_of (by unfold mp_; rw [hb]; rfl) rfl)
def ap_ (σ : sg) (k v w b : Nat) : sg := us (us (us (us σ 14 (k * 4 + σ 13 k) v) 15 (k * 4 + σ 13 k) w) 16 (k * 4 + σ 13 k) b) 13 k (σ 13 k + 1)
set_option maxRecDepth 100000 in
set_option maxHeartbeats 4000000 in
theorem c_G_addPass (l : Launch) (X : wX) (σ : sg) (k v w : Nat) (b : Bool) (hk : k < 8) (hs : σ 13 k ≤ 4) : mt_ l X y_G_addPass w_G_addPass 0 [.ref (adr X 1), .int (nI k), .int (nI v), .int (nI w), .int (nI b.toNat)] σ (ei_ (if σ 13 k < 4 then nI (σ 13 k + 1) else -2) (if σ 13 k < 4 then ap_ σ k v w b.toNat else σ)) := by
  refine mt_of (own := R_G) rfl pl_G (Nat.le_of_ble_eq_true rfl) ?_
  intro zp ze zs zm za zb zt zc F hr hlk
  refine qv_sub (L' := [(0, _), (1, _), (2, _), (3, _), (4, _)]) [0, 1, 2, 3, 4] rfl ?_
  refine qv_aload_n F d_G_addPass_0 0 rfl ?_
  refine g_G_43 F d_G_addPass_1 ?_
  refine qv_iload_n F d_G_addPass_4 1 rfl ?_
  refine ld_13 F (by omega) d_G_addPass_5 ?_
  refine qv_iconst F (nI 4) d_G_addPass_6 ic_4 ?_
  refine qv_icmplt F d_G_addPass_7 rfl (by omega) (by omega) (fun hb => ?_) (fun hb => ?_)
  ·
    have hbz : b.toNat = 0 ∨ b.toNat = 1 := by cases b <;> decide
    refine qv_iload_n F d_G_addPass_13 1 rfl ?_
    refine qv_iconst F (nI 4) d_G_addPass_14 ic_4 ?_
    refine qv_imul F d_G_addPass_15 ?_
    refine qv_aload_n F d_G_addPass_16 0 rfl ?_
    refine g_G_43 F d_G_addPass_17 ?_
    refine qv_iload_n F d_G_addPass_20 1 rfl ?_
    refine ld_13 F (by omega) d_G_addPass_21 ?_
    refine qv_iadd F d_G_addPass_22 ?_
    refine qv_istore (L' := [(5, _), (0, _), (1, _), (2, _), (3, _), (4, _)]) F d_G_addPass_23 (by decide) rfl ?_
    refine qv_aload_n F d_G_addPass_25 1 rfl ?_
    refine g_G_46 F d_G_addPass_26 ?_
    refine qv_iload F d_G_addPass_29 0 rfl ?_
    refine qv_iload_n F d_G_addPass_31 3 rfl ?_
    refine sv_14 F (by omega) d_G_addPass_32 ?_
    refine qv_aload_n F d_G_addPass_33 1 rfl ?_
    refine g_G_49 F d_G_addPass_34 ?_
    refine qv_iload F d_G_addPass_37 0 rfl ?_
    refine qv_iload_n F d_G_addPass_39 4 rfl ?_
    refine sv_15 F (by omega) d_G_addPass_40 ?_
    refine qv_aload_n F d_G_addPass_41 1 rfl ?_
    refine g_G_52 F d_G_addPass_42 ?_
    refine qv_iload F d_G_addPass_45 0 rfl ?_
    refine qv_iload F d_G_addPass_47 5 rfl ?_
    refine sv_16 F (by omega) hbz d_G_addPass_49 ?_
    refine qv_aload_n F d_G_addPass_50 1 rfl ?_
    refine g_G_43 F d_G_addPass_51 ?_
    refine qv_iload_n F d_G_addPass_54 2 rfl ?_
    refine qv_dup2 F d_G_addPass_55 rfl rfl ?_
    refine ld_13 F (by omega) d_G_addPass_56 ?_
    refine qv_iconst F (nI 1) d_G_addPass_57 ic_1 ?_
    refine qv_iadd F d_G_addPass_58 ?_
    refine sv_13 F (by omega) d_G_addPass_59 ?_
    refine qv_aload_n F d_G_addPass_60 1 rfl ?_
    refine g_G_43 F d_G_addPass_61 ?_
    refine qv_iload_n F d_G_addPass_64 2 rfl ?_
    refine ld_13 F (by omega) d_G_addPass_65 ?_
    rw [if_pos hb, if_pos hb]
    exact qv_iret F hr hlk d_G_addPass_66 (ei_of (by rw [us_eq, up_eq]; rfl) rfl)
  ·
    refine qv_bipush F (-2) d_G_addPass_10 bic_m2 ?_
    rw [if_neg (by omega), if_neg (by omega)]
    exact qv_iret F hr hlk d_G_addPass_12 (ei_of rfl rfl)
set_option maxRecDepth 100000 in
set_option maxHeartbeats 4000000 in
theorem c_G_countPasses (l : Launch) (X : wX) (σ : sg) (hs : σ 1 7 ≤ 8) (h13 : ∀ k, σ 13 k ≤ 4) : mt_ l X y_G_countPasses w_G_countPasses 0 [.ref (adr X 1)] σ (ei_ (nI (sm_ (σ 13) (σ 1 7))) σ) := by
  refine mt_of (own := R_G) rfl pl_G (Nat.le_of_ble_eq_true rfl) ?_
  intro zp ze zs zm za zb zt zc F hr hlk
  refine qv_sub (L' := [(0, _)]) [0] rfl ?_
  refine qv_iconst F (nI 0) d_G_countPasses_0 ic_0 ?_
  refine qv_istore_n (L' := [(1, _), (0, _)]) F d_G_countPasses_1 (by decide) rfl ?_
  refine qv_iconst F (nI 0) d_G_countPasses_2 ic_0 ?_
  refine qv_istore_n (L' := [(2, _), (1, _), (0, _)]) F d_G_countPasses_3 (by decide) rfl ?_
  have lp := lu_up (fun i (_ : Unit) => vv_ zp l ze (rr_ 0) zs zm za zb zt zc (MQ zb (mq_ X (ei_ (nI (sm_ (σ 13) (σ 1 7))) σ)) za zs 0 0 (aw_ X)) X 3 [(2, .int (nI i)), (1, .int (nI (sm_ (σ 13) i))), (0, .ref (adr X 1))] σ 4 []) (fun _ _ => True) (σ 1 7) ?_ ?_ 0 () (Nat.zero_le _) trivial
  · exact lp
  · intro _ _
    refine qv_iload_n F d_G_countPasses_4 0 rfl ?_
    refine qv_aload_n F d_G_countPasses_5 2 rfl ?_
    refine g_G_34 F d_G_countPasses_6 ?_
    refine qv_icmpge F d_G_countPasses_9 rfl (by omega) (by omega) (fun hb => ?_) (fun hb => ?_)
    ·
      refine qv_iload_n F d_G_countPasses_27 1 rfl ?_
      exact qv_iret F hr hlk d_G_countPasses_28 (ei_of rfl rfl)
    ·
      omega
  · intro i _ hi _ ih
    refine qv_iload_n F d_G_countPasses_4 0 rfl ?_
    refine qv_aload_n F d_G_countPasses_5 2 rfl ?_
    refine g_G_34 F d_G_countPasses_6 ?_
    refine qv_icmpge F d_G_countPasses_9 rfl (by omega) (by omega) (fun hb => ?_) (fun hb => ?_)
    ·
      omega
    ·
      refine qv_iload_n F d_G_countPasses_12 1 rfl ?_
      refine qv_aload_n F d_G_countPasses_13 2 rfl ?_
      refine g_G_43 F d_G_countPasses_14 ?_
      refine qv_iload_n F d_G_countPasses_17 0 rfl ?_
      refine ld_13 F (by omega) d_G_countPasses_18 ?_
      refine qv_iadd F d_G_countPasses_19 ?_
      refine qv_istore_n (L' := [(1, _), (2, _), (0, _)]) F d_G_countPasses_20 (by decide) rfl ?_
      refine qv_sub (L' := [(2, _), (1, _), (0, _)]) [1, 0, 2] rfl ?_
      refine qv_iinc (L' := [(2, _), (1, _), (0, _)]) F _ d_G_countPasses_21 0 rfl (ii_1 _) (by decide) rfl ?_
      refine qv_goto F d_G_countPasses_24 rfl ?_
      exact ih () trivial
end
section
/-! contexts: small methods -/
set_option maxRecDepth 100000 in
set_option maxHeartbeats 4000000 in
theorem c_N_contextBy (l : Launch) (X : wX) (σ : sg) (k c : Nat) (hk : k < 8) : mt_ l X y_N_contextBy w_N_contextBy 0 [.ref (adr X 2), .int (nI k), .int (nI c)] σ (ei_ (nI (σ 18 k + c)) σ) := by
  refine mt_of (own := R_N) rfl pl_N (Nat.le_of_ble_eq_true rfl) ?_
  intro zp ze zs zm za zb zt zc F hr hlk
  refine qv_sub (L' := [(0, _), (1, _), (2, _)]) [0, 1, 2] rfl ?_
  refine qv_aload_n F d_N_contextBy_0 0 rfl ?_
  refine g_N_15 F d_N_contextBy_1 ?_
  refine qv_iload_n F d_N_contextBy_4 1 rfl ?_
  refine ld_18 F (by omega) d_N_contextBy_5 ?_
  refine qv_iload_n F d_N_contextBy_6 2 rfl ?_
  refine qv_iadd F d_N_contextBy_7 ?_
  exact qv_iret F hr hlk d_N_contextBy_8 (ei_of rfl rfl)
set_option maxRecDepth 100000 in
set_option maxHeartbeats 4000000 in
theorem c_T_pointedTo (l : Launch) (X : wX) (σ : sg) (c v : Nat) (h : c * 16 + v < 128) : mt_ l X y_T_pointedTo w_T_pointedTo 0 [.ref (adr X 3), .int (nI c), .int (nI v)] σ (ei_ (nI (σ 21 (c * 16 + v))) σ) := by
  refine mt_of (own := R_T) rfl pl_T (Nat.le_of_ble_eq_true rfl) ?_
  intro zp ze zs zm za zb zt zc F hr hlk
  refine qv_sub (L' := [(0, _), (1, _), (2, _)]) [0, 1, 2] rfl ?_
  refine qv_aload_n F d_T_pointedTo_0 0 rfl ?_
  refine g_T_11 F d_T_pointedTo_1 ?_
  refine qv_iload_n F d_T_pointedTo_4 1 rfl ?_
  refine qv_bipush F (nI 16) d_T_pointedTo_5 bic_16 ?_
  refine qv_imul F d_T_pointedTo_7 ?_
  refine qv_iload_n F d_T_pointedTo_8 2 rfl ?_
  refine qv_iadd F d_T_pointedTo_9 ?_
  refine ld_21 F (by omega) d_T_pointedTo_10 ?_
  exact qv_iret F hr hlk d_T_pointedTo_11 (ei_of rfl rfl)
set_option maxRecDepth 100000 in
set_option maxHeartbeats 4000000 in
theorem c_T_heldIn (l : Launch) (X : wX) (σ : sg) (h f : Nat) (hh : h * 2 + f < 16) : mt_ l X y_T_heldIn w_T_heldIn 0 [.ref (adr X 3), .int (nI h), .int (nI f)] σ (ei_ (nI (σ 22 (h * 2 + f))) σ) := by
  refine mt_of (own := R_T) rfl pl_T (Nat.le_of_ble_eq_true rfl) ?_
  intro zp ze zs zm za zb zt zc F hr hlk
  refine qv_sub (L' := [(0, _), (1, _), (2, _)]) [0, 1, 2] rfl ?_
  refine qv_aload_n F d_T_heldIn_0 0 rfl ?_
  refine g_T_15 F d_T_heldIn_1 ?_
  refine qv_iload_n F d_T_heldIn_4 1 rfl ?_
  refine qv_iconst F (nI 2) d_T_heldIn_5 ic_2 ?_
  refine qv_imul F d_T_heldIn_6 ?_
  refine qv_iload_n F d_T_heldIn_7 2 rfl ?_
  refine qv_iadd F d_T_heldIn_8 ?_
  refine ld_22 F (by omega) d_T_heldIn_9 ?_
  exact qv_iret F hr hlk d_T_heldIn_10 (ei_of rfl rfl)
abbrev rf_ (σ : sg) : rl_ := fun a b => (σ 19 a).testBit b
theorem gp_rf (σ : sg) (a b : Nat) : gp_ (rf_ σ) a b = (a == b || ((σ 19 a).testBit b && (σ 19 b).testBit a)) := rfl
set_option maxRecDepth 100000 in
set_option maxHeartbeats 4000000 in
theorem c_N_areOfOneGroup (l : Launch) (X : wX) (σ : sg) (a b : Nat) (ha : a < 4) (hb0 : b < 4) (h19 : ∀ k, k < 4 → σ 19 k < 16) : mt_ l X y_N_areOfOneGroup w_N_areOfOneGroup 1 [.ref (adr X 2), .int (nI a), .int (nI b)] σ (ei_ (nI (gp_ (rf_ σ) a b).toNat) σ) := by
  refine mt_of (own := R_N) rfl pl_N (Nat.le_of_ble_eq_true rfl) ?_
  intro zp ze zs zm za zb zt zc F hr hlk
  refine qv_sub (L' := [(0, _), (1, _), (2, _)]) [0, 1, 2] rfl ?_
  have q1 := h19 a ha
  have q2 := h19 b hb0
  refine qv_iload_n F d_N_areOfOneGroup_0 1 rfl ?_
  refine qv_iload_n F d_N_areOfOneGroup_1 2 rfl ?_
  refine qv_icmpeq F d_N_areOfOneGroup_2 rfl (by omega) (by omega) (fun hb => ?_) (fun hb => ?_)
  ·
    refine qv_iconst F (nI 1) d_N_areOfOneGroup_31 ic_1 ?_
    refine qv_goto F d_N_areOfOneGroup_32 rfl ?_
    exact qv_zret F hr hlk (by first | exact Or.inl rfl | exact Or.inr rfl | exact bz_01 _) d_N_areOfOneGroup_36 (ei_of (by rw [gp_rf, beq_iff_eq.mpr hb]; rfl) rfl)
  ·
    have hne : (a == b) = false := by rw [← Bool.not_eq_true, beq_iff_eq]; exact hb
    refine qv_aload_n F d_N_areOfOneGroup_5 0 rfl ?_
    refine g_N_22 F d_N_areOfOneGroup_6 ?_
    refine qv_iload_n F d_N_areOfOneGroup_9 1 rfl ?_
    refine ld_19 F (by omega) d_N_areOfOneGroup_10 ?_
    refine qv_iload_n F d_N_areOfOneGroup_11 2 rfl ?_
    refine i_N_53i F (c_P_hasBit l X σ (σ 19 a) b (by omega) (by omega)) (by decide) (Nat.le_of_ble_eq_true rfl) d_N_areOfOneGroup_12 ?_
    refine qv_ifeqB F d_N_areOfOneGroup_15 rfl (fun hb => ?_) (fun hb => ?_)
    ·
      refine qv_iconst F (nI 0) d_N_areOfOneGroup_35 ic_0 ?_
      exact qv_zret F hr hlk (by first | exact Or.inl rfl | exact Or.inr rfl | exact bz_01 _) d_N_areOfOneGroup_36 (ei_of (by rw [gp_rf, hne, hb]; rfl) rfl)
    ·
      have hab := hb
      refine qv_aload_n F d_N_areOfOneGroup_18 0 rfl ?_
      refine g_N_22 F d_N_areOfOneGroup_19 ?_
      refine qv_iload_n F d_N_areOfOneGroup_22 2 rfl ?_
      refine ld_19 F (by omega) d_N_areOfOneGroup_23 ?_
      refine qv_iload_n F d_N_areOfOneGroup_24 1 rfl ?_
      refine i_N_53i F (c_P_hasBit l X σ (σ 19 b) a (by omega) (by omega)) (by decide) (Nat.le_of_ble_eq_true rfl) d_N_areOfOneGroup_25 ?_
      refine qv_ifeqB F d_N_areOfOneGroup_28 rfl (fun hb => ?_) (fun hb => ?_)
      ·
        refine qv_iconst F (nI 0) d_N_areOfOneGroup_35 ic_0 ?_
        exact qv_zret F hr hlk (by first | exact Or.inl rfl | exact Or.inr rfl | exact bz_01 _) d_N_areOfOneGroup_36 (ei_of (by rw [gp_rf, hne, hab, hb]; rfl) rfl)
      ·
        refine qv_iconst F (nI 1) d_N_areOfOneGroup_31 ic_1 ?_
        refine qv_goto F d_N_areOfOneGroup_32 rfl ?_
        exact qv_zret F hr hlk (by first | exact Or.inl rfl | exact Or.inr rfl | exact bz_01 _) d_N_areOfOneGroup_36 (ei_of (by rw [gp_rf, hne, hab, hb]; rfl) rfl)
set_option maxRecDepth 100000 in
set_option maxHeartbeats 4000000 in
theorem c_N_isOuter (l : Launch) (X : wX) (σ : sg) (k : Nat) (hk : k < 8) (h11 : ∀ k, σ 11 k < 4) (h12 : ∀ k, σ 12 k < 4) (h19 : ∀ k, k < 4 → σ 19 k < 16) : mt_ l X y_N_isOuter w_N_isOuter 2 [.ref (adr X 2), .ref (adr X 1), .int (nI k)] σ (ei_ (nI (ou_ σ (rf_ σ) k).toNat) σ) := by
  refine mt_of (own := R_N) rfl pl_N (Nat.le_of_ble_eq_true rfl) ?_
  intro zp ze zs zm za zb zt zc F hr hlk
  refine qv_sub (L' := [(0, _), (1, _), (2, _)]) [0, 1, 2] rfl ?_
  refine qv_aload_n F d_N_isOuter_0 0 rfl ?_
  refine qv_aload_n F d_N_isOuter_1 1 rfl ?_
  refine g_N_47 F d_N_isOuter_2 ?_
  refine qv_iload_n F d_N_isOuter_5 2 rfl ?_
  refine ld_11 F (by omega) d_N_isOuter_6 ?_
  refine qv_aload_n F d_N_isOuter_7 1 rfl ?_
  refine g_N_50 F d_N_isOuter_8 ?_
  refine qv_iload_n F d_N_isOuter_11 2 rfl ?_
  refine ld_12 F (by omega) d_N_isOuter_12 ?_
  refine i_N_71i F (c_N_areOfOneGroup l X σ (σ 11 k) (σ 12 k) (h11 k) (h12 k) h19) (by decide) (Nat.le_of_ble_eq_true rfl) d_N_isOuter_13 ?_
  refine qv_ifneB F d_N_isOuter_16 rfl (fun hb => ?_) (fun hb => ?_)
  ·
    refine qv_iconst F (nI 0) d_N_isOuter_23 ic_0 ?_
    exact qv_zret F hr hlk (by first | exact Or.inl rfl | exact Or.inr rfl | exact bz_01 _) d_N_isOuter_24 (ei_of (by unfold ou_; rw [hb]; rfl) rfl)
  ·
    refine qv_iconst F (nI 1) d_N_isOuter_19 ic_1 ?_
    refine qv_goto F d_N_isOuter_20 rfl ?_
    exact qv_zret F hr hlk (by first | exact Or.inl rfl | exact Or.inr rfl | exact bz_01 _) d_N_isOuter_24 (ei_of (by unfold ou_; rw [hb]; rfl) rfl)
set_option maxRecDepth 100000 in
set_option maxHeartbeats 4000000 in
theorem c_N_broughtBefore (l : Launch) (X : wX) (σ : sg) (n mm : Nat) (hn : n ≤ 8) (hm : mm < 4) (h11 : ∀ k, σ 11 k < 4) (h12 : ∀ k, σ 12 k < 4) (h19 : ∀ k, k < 4 → σ 19 k < 16) : mt_ l X y_N_broughtBefore w_N_broughtBefore 3 [.ref (adr X 2), .ref (adr X 1), .int (nI n), .int (nI mm)] σ (ei_ (nI (br_ σ (rf_ σ) (σ 20) mm n)) σ) := by
  refine mt_of (own := R_N) rfl pl_N (Nat.le_of_ble_eq_true rfl) ?_
  intro zp ze zs zm za zb zt zc F hr hlk
  refine qv_sub (L' := [(0, _), (1, _), (2, _), (3, _)]) [0, 1, 2, 3] rfl ?_
  refine qv_iconst F (nI 0) d_N_broughtBefore_0 ic_0 ?_
  refine qv_istore (L' := [(4, _), (0, _), (1, _), (2, _), (3, _)]) F d_N_broughtBefore_1 (by decide) rfl ?_
  refine qv_iconst F (nI 0) d_N_broughtBefore_3 ic_0 ?_
  refine qv_istore (L' := [(5, _), (4, _), (0, _), (1, _), (2, _), (3, _)]) F d_N_broughtBefore_4 (by decide) rfl ?_
  have lp := lu_up (fun i (_ : Unit) => vv_ zp l ze (rr_ 3) zs zm za zb zt zc (MQ zb (mq_ X (ei_ (nI (br_ σ (rf_ σ) (σ 20) mm n)) σ)) za zs 0 0 (aw_ X)) X 6 [(5, .int (nI i)), (4, .int (nI (br_ σ (rf_ σ) (σ 20) mm i))), (0, .ref (adr X 2)), (1, .ref (adr X 1)), (2, .int (nI n)), (3, .int (nI mm))] σ 6 []) (fun _ _ => True) n ?_ ?_ 0 () (Nat.zero_le _) trivial
  · exact lp
  · intro _ _
    refine qv_iload F d_N_broughtBefore_6 0 rfl ?_
    refine qv_iload_n F d_N_broughtBefore_8 4 rfl ?_
    refine qv_icmpge F d_N_broughtBefore_9 rfl (by omega) (by omega) (fun hb => ?_) (fun hb => ?_)
    ·
      refine qv_iload F d_N_broughtBefore_60 1 rfl ?_
      exact qv_iret F hr hlk d_N_broughtBefore_62 (ei_of rfl rfl)
    ·
      omega
  · intro i _ hi _ ih
    have q11 := h11 i
    refine qv_iload F d_N_broughtBefore_6 0 rfl ?_
    refine qv_iload_n F d_N_broughtBefore_8 4 rfl ?_
    refine qv_icmpge F d_N_broughtBefore_9 rfl (by omega) (by omega) (fun hb => ?_) (fun hb => ?_)
    ·
      omega
    ·
      refine qv_aload_n F d_N_broughtBefore_12 2 rfl ?_
      refine qv_aload_n F d_N_broughtBefore_13 3 rfl ?_
      refine qv_iload F d_N_broughtBefore_14 0 rfl ?_
      refine i_N_67i F (c_N_isOuter l X σ i (by omega) h11 h12 h19) (by decide) (Nat.le_of_ble_eq_true rfl) d_N_broughtBefore_16 ?_
      refine qv_ifeqB F d_N_broughtBefore_19 rfl (fun hb => ?_) (fun hb => ?_)
      ·
        have e : br_ σ (rf_ σ) (σ 20) mm i = br_ σ (rf_ σ) (σ 20) mm (i + 1) := by
          show _ = br_ σ (rf_ σ) (σ 20) mm i + b1_ σ (rf_ σ) (σ 20) mm i
          unfold b1_
          rw [hb]
          rfl
        rw [e]
        refine qv_iinc (L' := [(5, _), (4, _), (0, _), (1, _), (2, _), (3, _)]) F _ d_N_broughtBefore_54 0 rfl (ii_1 _) (by decide) rfl ?_
        refine qv_goto F d_N_broughtBefore_57 rfl ?_
        exact ih () trivial
      ·
        have ho := hb
        refine qv_aload_n F d_N_broughtBefore_22 2 rfl ?_
        refine qv_aload_n F d_N_broughtBefore_23 3 rfl ?_
        refine g_N_50 F d_N_broughtBefore_24 ?_
        refine qv_iload F d_N_broughtBefore_27 0 rfl ?_
        refine ld_12 F (by omega) d_N_broughtBefore_29 ?_
        refine qv_iload_n F d_N_broughtBefore_30 5 rfl ?_
        refine i_N_71i F (c_N_areOfOneGroup l X σ (σ 12 i) mm (h12 i) hm h19) (by decide) (Nat.le_of_ble_eq_true rfl) d_N_broughtBefore_31 ?_
        refine qv_ifeqB F d_N_broughtBefore_34 rfl (fun hb => ?_) (fun hb => ?_)
        ·
          have e : br_ σ (rf_ σ) (σ 20) mm i = br_ σ (rf_ σ) (σ 20) mm (i + 1) := by
            show _ = br_ σ (rf_ σ) (σ 20) mm i + b1_ σ (rf_ σ) (σ 20) mm i
            unfold b1_
            rw [ho, hb]
            rfl
          rw [e]
          refine qv_iinc (L' := [(5, _), (4, _), (0, _), (1, _), (2, _), (3, _)]) F _ d_N_broughtBefore_54 0 rfl (ii_1 _) (by decide) rfl ?_
          refine qv_goto F d_N_broughtBefore_57 rfl ?_
          exact ih () trivial
        ·
          have e : br_ σ (rf_ σ) (σ 20) mm (i + 1) = br_ σ (rf_ σ) (σ 20) mm i + σ 20 (σ 11 i) := by
            show br_ σ (rf_ σ) (σ 20) mm i + b1_ σ (rf_ σ) (σ 20) mm i = _
            unfold b1_
            rw [ho, hb]
            rfl
          have ih := ih () trivial
          rw [e] at ih
          refine qv_iload F d_N_broughtBefore_37 1 rfl ?_
          refine qv_aload_n F d_N_broughtBefore_39 2 rfl ?_
          refine g_N_25 F d_N_broughtBefore_40 ?_
          refine qv_aload_n F d_N_broughtBefore_43 3 rfl ?_
          refine g_N_47 F d_N_broughtBefore_44 ?_
          refine qv_iload F d_N_broughtBefore_47 0 rfl ?_
          refine ld_11 F (by omega) d_N_broughtBefore_49 ?_
          refine ld_20 F (by omega) d_N_broughtBefore_50 ?_
          refine qv_iadd F d_N_broughtBefore_51 ?_
          refine qv_istore (L' := [(4, _), (5, _), (0, _), (1, _), (2, _), (3, _)]) F d_N_broughtBefore_52 (by decide) rfl ?_
          refine qv_sub (L' := [(5, _), (4, _), (0, _), (1, _), (2, _), (3, _)]) [1, 0, 2, 3, 4, 5] rfl ?_
          refine qv_iinc (L' := [(5, _), (4, _), (0, _), (1, _), (2, _), (3, _)]) F _ d_N_broughtBefore_54 0 rfl (ii_1 _) (by decide) rfl ?_
          refine qv_goto F d_N_broughtBefore_57 rfl ?_
          exact ih
end
section
/-! relations: small methods -/
set_option maxRecDepth 100000 in
set_option maxHeartbeats 4000000 in
theorem c_T_addTo (l : Launch) (X : wX) (σ : sg) (q n i x : Nat) (hq : dz_[q]? = some (.inl (false, n))) (hnq : n < 2 ^ 31) (hi : i < n) (h1 : σ q i < 256) (h2 : x < 256) : mt_ l X y_T_addTo w_T_addTo 0 [.ref (adr X 3), .ref (adr X q), .int (nI i), .int (nI x)] σ (ev_ (if σ q i ||| x = σ q i then σ else us (us σ q i (σ q i ||| x)) 3 3 1)) := by
  refine mt_of (own := R_T) rfl pl_T (Nat.le_of_ble_eq_true rfl) ?_
  intro zp ze zs zm za zb zt zc F hr hlk
  refine qv_sub (L' := [(0, _), (1, _), (2, _), (3, _)]) [0, 1, 2, 3] rfl ?_
  have h3 := or_256 h1 h2
  refine qv_aload_n F d_T_addTo_0 1 rfl ?_
  refine qv_iload_n F d_T_addTo_1 2 rfl ?_
  refine qv_iald F q hq hi hnq d_T_addTo_2 ?_
  refine qv_iload_n F d_T_addTo_3 3 rfl ?_
  refine qv_ior F d_T_addTo_4 ?_
  refine qv_istore (L' := [(4, _), (0, _), (1, _), (2, _), (3, _)]) F d_T_addTo_5 (by decide) rfl ?_
  refine qv_iload F d_T_addTo_7 0 rfl ?_
  refine qv_aload_n F d_T_addTo_9 2 rfl ?_
  refine qv_iload_n F d_T_addTo_10 3 rfl ?_
  refine qv_iald F q hq hi hnq d_T_addTo_11 ?_
  refine qv_icmpeq F d_T_addTo_12 rfl (by omega) (by omega) (fun hb => ?_) (fun hb => ?_)
  ·
    rw [if_pos hb]
    exact qv_ret F hr hlk d_T_addTo_25 (ev_of rfl)
  ·
    rw [if_neg hb]
    refine qv_aload_n F d_T_addTo_15 2 rfl ?_
    refine qv_iload_n F d_T_addTo_16 3 rfl ?_
    refine qv_iload F d_T_addTo_17 0 rfl ?_
    refine qv_iast F q hq hi hnq d_T_addTo_19 ?_
    refine qv_aload_n F d_T_addTo_20 1 rfl ?_
    refine qv_iconst F (nI 1) d_T_addTo_21 ic_1 ?_
    refine p_T_21 F (Or.inr rfl) d_T_addTo_22 ?_
    exact qv_ret F hr hlk d_T_addTo_25 (ev_of rfl)
set_option maxRecDepth 100000 in
set_option maxHeartbeats 4000000 in
theorem c_T_addPointed (l : Launch) (X : wX) (σ : sg) (c v x : Nat) (hc : c * 16 + v < 128) (hv : v < 16) (h1 : ∀ k, σ 21 k < 256) (h2 : ∀ k, σ 23 k < 256) : mt_ l X y_T_addPointed w_T_addPointed 1 [.ref (adr X 3), .int (nI c), .int (nI v), .int (nI x)] σ (ev_ (sr_ σ (ad_ (σ 23) c v x (rg_ σ)))) := by
  refine mt_of (own := R_T) rfl pl_T (Nat.le_of_ble_eq_true rfl) ?_
  intro zp ze zs zm za zb zt zc F hr hlk
  refine qv_sub (L' := [(0, _), (1, _), (2, _), (3, _)]) [0, 1, 2, 3] rfl ?_
  refine qv_aload_n F d_T_addPointed_0 0 rfl ?_
  refine qv_aload_n F d_T_addPointed_1 0 rfl ?_
  refine g_T_11 F d_T_addPointed_2 ?_
  refine qv_iload_n F d_T_addPointed_5 1 rfl ?_
  refine qv_bipush F (nI 16) d_T_addPointed_6 bic_16 ?_
  refine qv_imul F d_T_addPointed_8 ?_
  refine qv_iload_n F d_T_addPointed_9 2 rfl ?_
  refine qv_iadd F d_T_addPointed_10 ?_
  refine qv_iload_n F d_T_addPointed_11 3 rfl ?_
  refine qv_aload_n F d_T_addPointed_12 0 rfl ?_
  refine g_T_18 F d_T_addPointed_13 ?_
  refine qv_iload_n F d_T_addPointed_16 2 rfl ?_
  refine ld_23 F (by omega) d_T_addPointed_17 ?_
  refine qv_iand F d_T_addPointed_18 ?_
  refine i_T_132v F (c_T_addTo l X σ 21 128 (c * 16 + v) (x &&& σ 23 v) rfl (by decide) hc (h1 _) (and_256 (h2 v))) (by decide) (Nat.le_of_ble_eq_true rfl) d_T_addPointed_19 ?_
  exact qv_ret F hr hlk d_T_addPointed_22 (ev_of (at_21 σ _ _))
set_option maxRecDepth 100000 in
set_option maxHeartbeats 4000000 in
theorem c_T_addHeld (l : Launch) (X : wX) (σ : sg) (set f x : Nat) (hset : set < 2 ^ 31) (hf : f < 2) (hx : x < 256) (h1 : B_ (rg_ σ)) : mt_ l X y_T_addHeld w_T_addHeld 1 [.ref (adr X 3), .int (nI set), .int (nI f), .int (nI x)] σ (ev_ (sr_ σ (hs_ set f x 8 (rg_ σ)))) := by
  refine mt_of (own := R_T) rfl pl_T (Nat.le_of_ble_eq_true rfl) ?_
  intro zp ze zs zm za zb zt zc F hr hlk
  refine qv_sub (L' := [(0, _), (1, _), (2, _), (3, _)]) [0, 1, 2, 3] rfl ?_
  refine qv_iconst F (nI 0) d_T_addHeld_0 ic_0 ?_
  refine qv_istore (L' := [(4, _), (0, _), (1, _), (2, _), (3, _)]) F d_T_addHeld_1 (by decide) rfl ?_
  have lp := lu_up (fun i (_ : Unit) => vv_ zp l ze (rr_ 1) zs zm za zb zt zc (MQ zb (mq_ X (ev_ (sr_ σ (hs_ set f x 8 (rg_ σ))))) za zs 0 0 (aw_ X)) X 5 [(4, .int (nI i)), (0, .ref (adr X 3)), (1, .int (nI set)), (2, .int (nI f)), (3, .int (nI x))] (sr_ σ (hs_ set f x i (rg_ σ))) 3 []) (fun _ _ => True) 8 ?_ ?_ 0 () (Nat.zero_le _) trivial
  · exact qv_st (sr_rg σ).symm lp
  · intro _ _
    refine qv_iload F d_T_addHeld_3 0 rfl ?_
    refine qv_bipush F (nI 8) d_T_addHeld_5 bic_8 ?_
    refine qv_icmpge F d_T_addHeld_7 rfl (by decide) (by decide) (fun hb => ?_) (fun hb => ?_)
    ·
      exact qv_ret F hr hlk d_T_addHeld_40 (ev_of rfl)
    ·
      exact absurd hb (by decide)
  · intro i _ hi _ ih
    have hB := hs_B (set := set) (f := f) hx i _ h1
    have e : hs_ set f x (i + 1) (rg_ σ) = if set.testBit i = true then h1_ f x i (hs_ set f x i (rg_ σ)) else hs_ set f x i (rg_ σ) := rfl
    refine qv_iload F d_T_addHeld_3 0 rfl ?_
    refine qv_bipush F (nI 8) d_T_addHeld_5 bic_8 ?_
    refine qv_icmpge F d_T_addHeld_7 rfl (by omega) (by omega) (fun hb => ?_) (fun hb => ?_)
    ·
      omega
    ·
      refine qv_iload_n F d_T_addHeld_10 2 rfl ?_
      refine qv_iload F d_T_addHeld_11 0 rfl ?_
      refine i_T_60i F (c_P_hasBit l X _ set i hset (by omega)) (by decide) (Nat.le_of_ble_eq_true rfl) d_T_addHeld_13 ?_
      refine qv_ifeqB F d_T_addHeld_16 rfl (fun hb => ?_) (fun hb => ?_)
      ·
        rw [hb] at e
        have ih := ih () trivial
        rw [e] at ih
        refine qv_iinc (L' := [(4, _), (0, _), (1, _), (2, _), (3, _)]) F _ d_T_addHeld_34 0 rfl (ii_1 _) (by decide) rfl ?_
        refine qv_goto F d_T_addHeld_37 rfl ?_
        exact ih
      ·
        rw [hb] at e
        have ih := ih () trivial
        rw [e] at ih
        refine qv_aload_n F d_T_addHeld_19 1 rfl ?_
        refine qv_aload_n F d_T_addHeld_20 1 rfl ?_
        refine g_T_15 F d_T_addHeld_21 ?_
        refine qv_iload F d_T_addHeld_24 0 rfl ?_
        refine qv_iconst F (nI 2) d_T_addHeld_26 ic_2 ?_
        refine qv_imul F d_T_addHeld_27 ?_
        refine qv_iload_n F d_T_addHeld_28 3 rfl ?_
        refine qv_iadd F d_T_addHeld_29 ?_
        refine qv_iload_n F d_T_addHeld_30 4 rfl ?_
        refine i_T_132v F (c_T_addTo l X _ 22 16 (i * 2 + f) x rfl (by decide) (by omega) (hB.2 _) hx) (by decide) (Nat.le_of_ble_eq_true rfl) d_T_addHeld_31 ?_
        rw [at_22, sr_sr]
        refine qv_iinc (L' := [(4, _), (0, _), (1, _), (2, _), (3, _)]) F _ d_T_addHeld_34 0 rfl (ii_1 _) (by decide) rfl ?_
        refine qv_goto F d_T_addHeld_37 rfl ?_
        exact ih
set_option maxRecDepth 100000 in
set_option maxHeartbeats 4000000 in
theorem c_T_heldInAny (l : Launch) (X : wX) (σ : sg) (set f : Nat) (hset : set < 2 ^ 31) (hf : f < 2) : mt_ l X y_T_heldInAny w_T_heldInAny 1 [.ref (adr X 3), .int (nI set), .int (nI f)] σ (ei_ (nI (ha_ (σ 22) set f 8)) σ) := by
  refine mt_of (own := R_T) rfl pl_T (Nat.le_of_ble_eq_true rfl) ?_
  intro zp ze zs zm za zb zt zc F hr hlk
  refine qv_sub (L' := [(0, _), (1, _), (2, _)]) [0, 1, 2] rfl ?_
  refine qv_iconst F (nI 0) d_T_heldInAny_0 ic_0 ?_
  refine qv_istore_n (L' := [(3, _), (0, _), (1, _), (2, _)]) F d_T_heldInAny_1 (by decide) rfl ?_
  refine qv_iconst F (nI 0) d_T_heldInAny_2 ic_0 ?_
  refine qv_istore (L' := [(4, _), (3, _), (0, _), (1, _), (2, _)]) F d_T_heldInAny_3 (by decide) rfl ?_
  have lp := lu_up (fun i (_ : Unit) => vv_ zp l ze (rr_ 1) zs zm za zb zt zc (MQ zb (mq_ X (ei_ (nI (ha_ (σ 22) set f 8)) σ)) za zs 0 0 (aw_ X)) X 5 [(4, .int (nI i)), (3, .int (nI (ha_ (σ 22) set f i))), (0, .ref (adr X 3)), (1, .int (nI set)), (2, .int (nI f))] σ 5 []) (fun _ _ => True) 8 ?_ ?_ 0 () (Nat.zero_le _) trivial
  · exact lp
  · intro _ _
    refine qv_iload F d_T_heldInAny_5 0 rfl ?_
    refine qv_bipush F (nI 8) d_T_heldInAny_7 bic_8 ?_
    refine qv_icmpge F d_T_heldInAny_9 rfl (by decide) (by decide) (fun hb => ?_) (fun hb => ?_)
    ·
      refine qv_iload_n F d_T_heldInAny_37 1 rfl ?_
      exact qv_iret F hr hlk d_T_heldInAny_38 (ei_of rfl rfl)
    ·
      exact absurd hb (by decide)
  · intro i _ hi _ ih
    have e : ha_ (σ 22) set f (i + 1) = ha_ (σ 22) set f i ||| (if set.testBit i = true then σ 22 (i * 2 + f) else 0) := rfl
    have ih := ih () trivial
    rw [e] at ih
    refine qv_iload F d_T_heldInAny_5 0 rfl ?_
    refine qv_bipush F (nI 8) d_T_heldInAny_7 bic_8 ?_
    refine qv_icmpge F d_T_heldInAny_9 rfl (by omega) (by omega) (fun hb => ?_) (fun hb => ?_)
    ·
      omega
    ·
      refine qv_iload_n F d_T_heldInAny_12 3 rfl ?_
      refine qv_iload F d_T_heldInAny_13 0 rfl ?_
      refine i_T_60i F (c_P_hasBit l X _ set i hset (by omega)) (by decide) (Nat.le_of_ble_eq_true rfl) d_T_heldInAny_15 ?_
      refine qv_ifeqB F d_T_heldInAny_18 rfl (fun hb => ?_) (fun hb => ?_)
      ·
        rw [hb, if_neg (by decide), Nat.or_zero] at ih
        refine qv_iinc (L' := [(4, _), (3, _), (0, _), (1, _), (2, _)]) F _ d_T_heldInAny_31 0 rfl (ii_1 _) (by decide) rfl ?_
        refine qv_goto F d_T_heldInAny_34 rfl ?_
        exact ih
      ·
        rw [hb, if_pos rfl] at ih
        refine qv_iload_n F d_T_heldInAny_21 1 rfl ?_
        refine qv_aload_n F d_T_heldInAny_22 2 rfl ?_
        refine qv_iload F d_T_heldInAny_23 0 rfl ?_
        refine qv_iload_n F d_T_heldInAny_25 4 rfl ?_
        refine i_T_136i F (c_T_heldIn l X σ i f (by omega)) (by decide) (Nat.le_of_ble_eq_true rfl) d_T_heldInAny_26 ?_
        refine qv_ior F d_T_heldInAny_29 ?_
        refine qv_istore_n (L' := [(3, _), (4, _), (0, _), (1, _), (2, _)]) F d_T_heldInAny_30 (by decide) rfl ?_
        refine qv_sub (L' := [(4, _), (3, _), (0, _), (1, _), (2, _)]) [1, 0, 2, 3, 4] rfl ?_
        refine qv_iinc (L' := [(4, _), (3, _), (0, _), (1, _), (2, _)]) F _ d_T_heldInAny_31 0 rfl (ii_1 _) (by decide) rfl ?_
        refine qv_goto F d_T_heldInAny_34 rfl ?_
        exact ih
set_option maxRecDepth 100000 in
set_option maxHeartbeats 4000000 in
theorem c_T_findWelcome (l : Launch) (X : wX) (σ : sg) (h5 : ∀ k, σ 5 k < 4) (h6 : ∀ k, σ 6 k < 16) : mt_ l X y_T_findWelcome w_T_findWelcome 1 [.ref (adr X 3), .ref (adr X 1)] σ (ev_ (ua σ 23 (ft_ σ))) := by
  refine mt_of (own := R_T) rfl pl_T (Nat.le_of_ble_eq_true rfl) ?_
  intro zp ze zs zm za zb zt zc F hr hlk
  refine qv_sub (L' := [(0, _), (1, _)]) [0, 1] rfl ?_
  refine qv_iconst F (nI 0) d_T_findWelcome_0 ic_0 ?_
  refine qv_istore_n (L' := [(2, _), (0, _), (1, _)]) F d_T_findWelcome_1 (by decide) rfl ?_
  have lp := lu_up (fun i (g : Nat → Nat) => vv_ zp l ze (rr_ 1) zs zm za zb zt zc (MQ zb (mq_ X (ev_ (ua σ 23 (ft_ σ)))) za zs 0 0 (aw_ X)) X 5 [(2, .int (nI i)), (0, .ref (adr X 3)), (1, .ref (adr X 1))] (ua σ 23 g) 2 []) (fun i g => ∀ k, k < i → g k = ft_ σ k) 16 ?_ ?_ 0 (σ 23) (Nat.zero_le _) (fun k hk => by omega)
  · exact qv_st (ua_id σ 23).symm lp
  · intro g hg
    refine qv_iload_n F d_T_findWelcome_2 0 rfl ?_
    refine qv_bipush F (nI 16) d_T_findWelcome_3 bic_16 ?_
    refine qv_icmpge F d_T_findWelcome_5 rfl (by decide) (by decide) (fun hb => ?_) (fun hb => ?_)
    ·
      refine qv_ext 23 (z := false) (n := 16) (g := ft_ σ) rfl (fun k hk => (hg k hk).symm) ?_
      exact qv_ret F hr hlk d_T_findWelcome_65 (ev_of (ua_ua σ 23 g (ft_ σ)))
    ·
      exact absurd hb (by decide)
  · intro v g hv hg ih
    have q6 := h6 v
    refine qv_iload_n F d_T_findWelcome_2 0 rfl ?_
    refine qv_bipush F (nI 16) d_T_findWelcome_3 bic_16 ?_
    refine qv_icmpge F d_T_findWelcome_5 rfl (by omega) (by omega) (fun hb => ?_) (fun hb => ?_)
    ·
      omega
    ·
      refine qv_iconst F (nI 0) d_T_findWelcome_8 ic_0 ?_
      refine qv_istore_n (L' := [(3, _), (2, _), (0, _), (1, _)]) F d_T_findWelcome_9 (by decide) rfl ?_
      refine qv_iconst F (nI 0) d_T_findWelcome_10 ic_0 ?_
      refine qv_istore (L' := [(4, _), (3, _), (2, _), (0, _), (1, _)]) F d_T_findWelcome_11 (by decide) rfl ?_
      have lp2 := lu_up (fun h (_ : Unit) => vv_ zp l ze (rr_ 1) zs zm za zb zt zc (MQ zb (mq_ X (ev_ (ua σ 23 (ft_ σ)))) za zs 0 0 (aw_ X)) X 5 [(4, .int (nI h)), (3, .int (nI (fw_ σ v h))), (2, .int (nI v)), (0, .ref (adr X 3)), (1, .ref (adr X 1))] (ua σ 23 g) 13 []) (fun _ _ => True) 8 ?_ ?_ 0 () (Nat.zero_le _) trivial
      · exact lp2
      · intro _ _
        refine qv_iload F d_T_findWelcome_13 0 rfl ?_
        refine qv_bipush F (nI 8) d_T_findWelcome_15 bic_8 ?_
        refine qv_icmpge F d_T_findWelcome_17 rfl (by decide) (by decide) (fun hb => ?_) (fun hb => ?_)
        ·
          refine qv_aload_n F d_T_findWelcome_52 3 rfl ?_
          refine g_T_18 F d_T_findWelcome_53 ?_
          refine qv_iload_n F d_T_findWelcome_56 2 rfl ?_
          refine qv_iload_n F d_T_findWelcome_57 1 rfl ?_
          refine sv_23 F (by omega) d_T_findWelcome_58 ?_
          refine qv_sub (L' := [(2, _), (0, _), (1, _)]) [2, 3, 4] rfl ?_
          refine qv_st (us_ua σ 23 g v (fw_ σ v 8)) ?_
          refine qv_iinc (L' := [(2, _), (0, _), (1, _)]) F _ d_T_findWelcome_59 0 rfl (ii_1 _) (by decide) rfl ?_
          refine qv_goto F d_T_findWelcome_62 rfl ?_
          refine ih _ (fun k hk => ?_)
          by_cases ek : k = v
          · subst ek; exact up_eq _ _ _
          · rw [up_ne ek]; exact hg k (by omega)
        ·
          exact absurd hb (by decide)
      · intro h _ hh _ ih2
        have q5 := h5 h
        have e : fw_ σ v (h + 1) = fw_ σ v h ||| (if (σ 6 v).testBit (σ 5 h) = true then 1 * 2 ^ h else 0) := rfl
        have ih2 := ih2 () trivial
        rw [e] at ih2
        refine qv_iload F d_T_findWelcome_13 0 rfl ?_
        refine qv_bipush F (nI 8) d_T_findWelcome_15 bic_8 ?_
        refine qv_icmpge F d_T_findWelcome_17 rfl (by omega) (by omega) (fun hb => ?_) (fun hb => ?_)
        ·
          omega
        ·
          refine qv_aload_n F d_T_findWelcome_20 4 rfl ?_
          refine g_T_52 F d_T_findWelcome_21 ?_
          refine qv_iload_n F d_T_findWelcome_24 2 rfl ?_
          refine ld_6 F (by omega) d_T_findWelcome_25 ?_
          refine qv_aload_n F d_T_findWelcome_26 4 rfl ?_
          refine g_T_57 F d_T_findWelcome_27 ?_
          refine qv_iload F d_T_findWelcome_30 0 rfl ?_
          refine ld_5 F (by omega) d_T_findWelcome_32 ?_
          refine i_T_60i F (c_P_hasBit l X _ (σ 6 v) (σ 5 h) (by omega) (by omega)) (by decide) (Nat.le_of_ble_eq_true rfl) d_T_findWelcome_33 ?_
          refine qv_ifeqB F d_T_findWelcome_36 rfl (fun hb => ?_) (fun hb => ?_)
          ·
            rw [hb, if_neg (by decide), Nat.or_zero] at ih2
            refine qv_iinc (L' := [(4, _), (3, _), (2, _), (0, _), (1, _)]) F _ d_T_findWelcome_46 0 rfl (ii_1 _) (by decide) rfl ?_
            refine qv_goto F d_T_findWelcome_49 rfl ?_
            exact ih2
          ·
            rw [hb, if_pos rfl] at ih2
            have hp : 1 * 2 ^ h < 2 ^ 32 := by rw [Nat.one_mul]; exact Nat.pow_lt_pow_right (by decide) (by omega)
            refine qv_iload_n F d_T_findWelcome_39 1 rfl ?_
            refine qv_iconst F (nI 1) d_T_findWelcome_40 ic_1 ?_
            refine qv_iload F d_T_findWelcome_41 0 rfl ?_
            refine qv_ishl F d_T_findWelcome_43 (by omega) hp ?_
            refine qv_ior F d_T_findWelcome_44 ?_
            refine qv_istore_n (L' := [(3, _), (4, _), (2, _), (0, _), (1, _)]) F d_T_findWelcome_45 (by decide) rfl ?_
            refine qv_sub (L' := [(4, _), (3, _), (2, _), (0, _), (1, _)]) [1, 0, 2, 3, 4] rfl ?_
            refine qv_iinc (L' := [(4, _), (3, _), (2, _), (0, _), (1, _)]) F _ d_T_findWelcome_46 0 rfl (ii_1 _) (by decide) rfl ?_
            refine qv_goto F d_T_findWelcome_49 rfl ?_
            exact ih2
end
section
/-! relations: statements and calls -/
set_option maxRecDepth 100000 in
set_option maxHeartbeats 4000000 in
theorem c_T_applyStatement (l : Launch) (X : wX) (σ : sg) (k c : Nat) (hk : k < 40) (hc : c < 8) (ht : tw_ σ) (h1 : B_ (rg_ σ)) (h2 : ∀ k, σ 23 k < 256) : mt_ l X y_T_applyStatement w_T_applyStatement 2 [.ref (adr X 3), .ref (adr X 1), .int (nI k), .int (nI c)] σ (ev_ (sr_ σ (sx_ σ (σ 23) k c (rg_ σ)))) := by
  refine mt_of (own := R_T) rfl pl_T (Nat.le_of_ble_eq_true rfl) ?_
  intro zp ze zs zm za zb zt zc F hr hlk
  refine qv_sub (L' := [(0, _), (1, _), (2, _), (3, _)]) [0, 1, 2, 3] rfl ?_
  have t7 := ht.2.2.1 k
  have t8 := ht.2.2.2.1 k
  have t9 := ht.2.2.2.2.1 k
  have t10 := ht.2.2.2.2.2.1 k
  refine qv_aload_n F d_T_applyStatement_0 1 rfl ?_
  refine g_T_73 F d_T_applyStatement_1 ?_
  refine qv_iload_n F d_T_applyStatement_4 2 rfl ?_
  refine ld_8 F (by omega) d_T_applyStatement_5 ?_
  refine qv_istore (L' := [(4, _), (0, _), (1, _), (2, _), (3, _)]) F d_T_applyStatement_6 (by decide) rfl ?_
  refine qv_aload_n F d_T_applyStatement_8 2 rfl ?_
  refine g_T_83 F d_T_applyStatement_9 ?_
  refine qv_iload_n F d_T_applyStatement_12 3 rfl ?_
  refine ld_9 F (by omega) d_T_applyStatement_13 ?_
  refine qv_istore (L' := [(5, _), (4, _), (0, _), (1, _), (2, _), (3, _)]) F d_T_applyStatement_14 (by decide) rfl ?_
  refine qv_aload_n F d_T_applyStatement_16 3 rfl ?_
  refine g_T_86 F d_T_applyStatement_17 ?_
  refine qv_iload_n F d_T_applyStatement_20 4 rfl ?_
  refine ld_10 F (by omega) d_T_applyStatement_21 ?_
  refine qv_istore (L' := [(6, _), (5, _), (4, _), (0, _), (1, _), (2, _), (3, _)]) F d_T_applyStatement_22 (by decide) rfl ?_
  refine qv_aload_n F d_T_applyStatement_24 4 rfl ?_
  refine g_T_89 F d_T_applyStatement_25 ?_
  refine qv_iload_n F d_T_applyStatement_28 5 rfl ?_
  refine ld_7 F (by omega) d_T_applyStatement_29 ?_
  rcases (by omega : σ 7 k = 0 ∨ σ 7 k = 1 ∨ σ 7 k = 2 ∨ σ 7 k = 3) with q | q | q | q
  · have q2 : sx_ σ (σ 23) k c (rg_ σ) = ad_ (σ 23) c (σ 8 k) (1 * 2 ^ σ 9 k) (rg_ σ) := by unfold sx_; rw [if_pos q]
    have hp : 1 * 2 ^ σ 9 k < 2 ^ 32 := by rw [Nat.one_mul]; exact Nat.pow_lt_pow_right (by decide) (by omega)
    rw [q, q2]
    refine qv_tsw F d_T_applyStatement_30 (by decide) (by decide) (by decide) (off := 26) (tgt := 56) rfl rfl ?_
    refine qv_aload_n F d_T_applyStatement_56 3 rfl ?_
    refine qv_iload_n F d_T_applyStatement_57 6 rfl ?_
    refine qv_iload F d_T_applyStatement_58 2 rfl ?_
    refine qv_iconst F (nI 1) d_T_applyStatement_60 ic_1 ?_
    refine qv_iload F d_T_applyStatement_61 1 rfl ?_
    refine qv_ishl F d_T_applyStatement_63 (by omega) hp ?_
    refine i_T_92v F (c_T_addPointed l X σ c (σ 8 k) (1 * 2 ^ σ 9 k) (by omega) t8 h1.1 h2) (by decide) (Nat.le_of_ble_eq_true rfl) d_T_applyStatement_64 ?_
    refine qv_goto F d_T_applyStatement_67 rfl ?_
    exact qv_ret F hr hlk d_T_applyStatement_130 (ev_of rfl)
  · have q2 : sx_ σ (σ 23) k c (rg_ σ) = ad_ (σ 23) c (σ 8 k) (σ 21 (c * 16 + σ 9 k)) (rg_ σ) := by unfold sx_; rw [if_neg (by omega), if_pos q]; rfl
    rw [q, q2]
    refine qv_tsw F d_T_applyStatement_30 (by decide) (by decide) (by decide) (off := 40) (tgt := 70) rfl rfl ?_
    refine qv_aload_n F d_T_applyStatement_70 3 rfl ?_
    refine qv_iload_n F d_T_applyStatement_71 6 rfl ?_
    refine qv_iload F d_T_applyStatement_72 2 rfl ?_
    refine qv_aload_n F d_T_applyStatement_74 3 rfl ?_
    refine qv_iload_n F d_T_applyStatement_75 6 rfl ?_
    refine qv_iload F d_T_applyStatement_76 1 rfl ?_
    refine i_T_96i F (c_T_pointedTo l X σ c (σ 9 k) (by omega)) (by decide) (Nat.le_of_ble_eq_true rfl) d_T_applyStatement_78 ?_
    refine i_T_92v F (c_T_addPointed l X σ c (σ 8 k) (σ 21 (c * 16 + σ 9 k)) (by omega) t8 h1.1 h2) (by decide) (Nat.le_of_ble_eq_true rfl) d_T_applyStatement_81 ?_
    refine qv_goto F d_T_applyStatement_84 rfl ?_
    exact qv_ret F hr hlk d_T_applyStatement_130 (ev_of rfl)
  · have q2 : sx_ σ (σ 23) k c (rg_ σ) = hs_ (σ 21 (c * 16 + σ 8 k)) (σ 10 k) (σ 21 (c * 16 + σ 9 k)) 8 (rg_ σ) := by unfold sx_; rw [if_neg (by omega), if_neg (by omega), if_pos q]; rfl
    have b1 := h1.1 (c * 16 + σ 8 k)
    have b2 := h1.1 (c * 16 + σ 9 k)
    rw [q, q2]
    refine qv_tsw F d_T_applyStatement_30 (by decide) (by decide) (by decide) (off := 57) (tgt := 87) rfl rfl ?_
    refine qv_aload_n F d_T_applyStatement_87 3 rfl ?_
    refine qv_aload_n F d_T_applyStatement_88 3 rfl ?_
    refine qv_iload_n F d_T_applyStatement_89 6 rfl ?_
    refine qv_iload F d_T_applyStatement_90 2 rfl ?_
    refine i_T_96i F (c_T_pointedTo l X σ c (σ 8 k) (by omega)) (by decide) (Nat.le_of_ble_eq_true rfl) d_T_applyStatement_92 ?_
    refine qv_iload F d_T_applyStatement_95 0 rfl ?_
    refine qv_aload_n F d_T_applyStatement_97 3 rfl ?_
    refine qv_iload_n F d_T_applyStatement_98 6 rfl ?_
    refine qv_iload F d_T_applyStatement_99 1 rfl ?_
    refine i_T_96i F (c_T_pointedTo l X σ c (σ 9 k) (by omega)) (by decide) (Nat.le_of_ble_eq_true rfl) d_T_applyStatement_101 ?_
    refine i_T_100v F (c_T_addHeld l X σ (σ 21 (c * 16 + σ 8 k)) (σ 10 k) (σ 21 (c * 16 + σ 9 k)) (Nat.lt_trans b1 (by decide)) t10 b2 h1) (by decide) (Nat.le_of_ble_eq_true rfl) d_T_applyStatement_104 ?_
    refine qv_goto F d_T_applyStatement_107 rfl ?_
    exact qv_ret F hr hlk d_T_applyStatement_130 (ev_of rfl)
  · have q2 : sx_ σ (σ 23) k c (rg_ σ) = ad_ (σ 23) c (σ 8 k) (ha_ (σ 22) (σ 21 (c * 16 + σ 9 k)) (σ 10 k) 8) (rg_ σ) := by unfold sx_; rw [if_neg (by omega), if_neg (by omega), if_neg (by omega)]; rfl
    have b2 := h1.1 (c * 16 + σ 9 k)
    rw [q, q2]
    refine qv_tswO F d_T_applyStatement_30 (by decide) (by decide) (tgt := 110) rfl ?_
    refine qv_aload_n F d_T_applyStatement_110 3 rfl ?_
    refine qv_iload_n F d_T_applyStatement_111 6 rfl ?_
    refine qv_iload F d_T_applyStatement_112 2 rfl ?_
    refine qv_aload_n F d_T_applyStatement_114 3 rfl ?_
    refine qv_aload_n F d_T_applyStatement_115 3 rfl ?_
    refine qv_iload_n F d_T_applyStatement_116 6 rfl ?_
    refine qv_iload F d_T_applyStatement_117 1 rfl ?_
    refine i_T_96i F (c_T_pointedTo l X σ c (σ 9 k) (by omega)) (by decide) (Nat.le_of_ble_eq_true rfl) d_T_applyStatement_119 ?_
    refine qv_iload F d_T_applyStatement_122 0 rfl ?_
    refine i_T_103i F (c_T_heldInAny l X σ (σ 21 (c * 16 + σ 9 k)) (σ 10 k) (Nat.lt_trans b2 (by decide)) t10) (by decide) (Nat.le_of_ble_eq_true rfl) d_T_applyStatement_124 ?_
    refine i_T_92v F (c_T_addPointed l X σ c (σ 8 k) (ha_ (σ 22) (σ 21 (c * 16 + σ 9 k)) (σ 10 k) 8) (by omega) t8 h1.1 h2) (by decide) (Nat.le_of_ble_eq_true rfl) d_T_applyStatement_127 ?_
    exact qv_ret F hr hlk d_T_applyStatement_130 (ev_of rfl)
set_option maxRecDepth 100000 in
set_option maxHeartbeats 4000000 in
theorem c_T_applyStatements (l : Launch) (X : wX) (σ : sg) (hn : σ 1 2 ≤ 40) (hm : ∀ k, σ 17 k ≤ 8) (ht : tw_ σ) (h1 : B_ (rg_ σ)) (h2 : ∀ k, σ 23 k < 256) : mt_ l X y_T_applyStatements w_T_applyStatements 3 [.ref (adr X 3), .ref (adr X 1), .ref (adr X 2)] σ (ev_ (sr_ σ (ss_ σ (σ 23) (σ 17) (σ 1 2) (rg_ σ)))) := by
  refine mt_of (own := R_T) rfl pl_T (Nat.le_of_ble_eq_true rfl) ?_
  intro zp ze zs zm za zb zt zc F hr hlk
  refine qv_sub (L' := [(0, _), (1, _), (2, _)]) [0, 1, 2] rfl ?_
  refine qv_iconst F (nI 0) d_T_applyStatements_0 ic_0 ?_
  refine qv_istore_n (L' := [(3, _), (0, _), (1, _), (2, _)]) F d_T_applyStatements_1 (by decide) rfl ?_
  have lp := lu_up (fun k (_ : Unit) => vv_ zp l ze (rr_ 3) zs zm za zb zt zc (MQ zb (mq_ X (ev_ (sr_ σ (ss_ σ (σ 23) (σ 17) (σ 1 2) (rg_ σ))))) za zs 0 0 (aw_ X)) X 6 [(3, .int (nI k)), (0, .ref (adr X 3)), (1, .ref (adr X 1)), (2, .ref (adr X 2))] (sr_ σ (ss_ σ (σ 23) (σ 17) k (rg_ σ))) 2 []) (fun _ _ => True) (σ 1 2) ?_ ?_ 0 () (Nat.zero_le _) trivial
  · exact qv_st (sr_rg σ).symm lp
  · intro _ _
    refine qv_iload_n F d_T_applyStatements_2 0 rfl ?_
    refine qv_aload_n F d_T_applyStatements_3 2 rfl ?_
    refine g_T_64 F d_T_applyStatements_4 ?_
    refine qv_icmpge F d_T_applyStatements_7 rfl (show σ 1 2 < 2 ^ 31 by omega) (show σ 1 2 < 2 ^ 31 by omega) (fun hb => ?_) (fun hb => ?_)
    ·
      exact qv_ret F hr hlk d_T_applyStatements_56 (ev_of rfl)
    ·
      exact absurd (show σ 1 2 < σ 1 2 from hb) (by omega)
  · intro k _ hk _ ih
    have ih := ih () trivial
    have t8 := ht.2.2.2.1 k
    have m8 := hm (σ 8 k / 4)
    have hB : B_ (ss_ σ (σ 23) (σ 17) k (rg_ σ)) := ss_B h2 h1
    have e1 : ss_ σ (σ 23) (σ 17) (k + 1) (rg_ σ) = it_ (sx_ σ (σ 23) k) (σ 17 (σ 8 k / 4)) (ss_ σ (σ 23) (σ 17) k (rg_ σ)) := rfl
    rw [e1] at ih
    generalize ss_ σ (σ 23) (σ 17) k (rg_ σ) = r at hB ih ⊢
    refine qv_iload_n F d_T_applyStatements_2 0 rfl ?_
    refine qv_aload_n F d_T_applyStatements_3 2 rfl ?_
    refine g_T_64 F d_T_applyStatements_4 ?_
    refine qv_icmpge F d_T_applyStatements_7 rfl (by omega) (show σ 1 2 < 2 ^ 31 by omega) (fun hb => ?_) (fun hb => ?_)
    ·
      exact absurd (show σ 1 2 ≤ k from hb) (by omega)
    ·
      refine qv_aload_n F d_T_applyStatements_10 3 rfl ?_
      refine g_T_68 F d_T_applyStatements_11 ?_
      refine qv_aload_n F d_T_applyStatements_14 2 rfl ?_
      refine g_T_73 F d_T_applyStatements_15 ?_
      refine qv_iload_n F d_T_applyStatements_18 0 rfl ?_
      refine ld_8 F (show k < 40 by omega) d_T_applyStatements_19 ?_
      refine i_T_76i F (c_P_methodOf l X _ (σ 8 k) (by omega)) (by decide) (Nat.le_of_ble_eq_true rfl) d_T_applyStatements_20 ?_
      refine ld_17 F (show σ 8 k / 4 < 4 by omega) d_T_applyStatements_23 ?_
      refine qv_istore (L' := [(4, _), (3, _), (0, _), (1, _), (2, _)]) F d_T_applyStatements_24 (by decide) rfl ?_
      refine qv_iconst F (nI 0) d_T_applyStatements_26 ic_0 ?_
      refine qv_istore (L' := [(5, _), (4, _), (3, _), (0, _), (1, _), (2, _)]) F d_T_applyStatements_27 (by decide) rfl ?_
      have lp2 := lu_up (fun c (_ : Unit) => vv_ zp l ze (rr_ 3) zs zm za zb zt zc (MQ zb (mq_ X (ev_ (sr_ σ (ss_ σ (σ 23) (σ 17) (σ 1 2) (rg_ σ))))) za zs 0 0 (aw_ X)) X 6 [(5, .int (nI c)), (4, .int (nI (σ 17 (σ 8 k / 4)))), (3, .int (nI k)), (0, .ref (adr X 3)), (1, .ref (adr X 1)), (2, .ref (adr X 2))] (sr_ σ (it_ (sx_ σ (σ 23) k) c r)) 29 []) (fun _ _ => True) (σ 17 (σ 8 k / 4)) ?_ ?_ 0 () (Nat.zero_le _) trivial
      · exact lp2
      · intro _ _
        refine qv_iload F d_T_applyStatements_29 0 rfl ?_
        refine qv_iload F d_T_applyStatements_31 1 rfl ?_
        refine qv_icmpge F d_T_applyStatements_33 rfl (by omega) (by omega) (fun hb => ?_) (fun hb => ?_)
        ·
          refine qv_sub (L' := [(3, _), (0, _), (1, _), (2, _)]) [2, 3, 4, 5] rfl ?_
          refine qv_iinc (L' := [(3, _), (0, _), (1, _), (2, _)]) F _ d_T_applyStatements_50 0 rfl (ii_1 _) (by decide) rfl ?_
          refine qv_goto F d_T_applyStatements_53 rfl ?_
          exact ih
        ·
          omega
      · intro c _ hc _ ih2
        have ih2 := ih2 () trivial
        have hB2 : B_ (it_ (sx_ σ (σ 23) k) c r) := it_B (fun _ s hs => sx_B h2 hs) c r hB
        refine qv_iload F d_T_applyStatements_29 0 rfl ?_
        refine qv_iload F d_T_applyStatements_31 1 rfl ?_
        refine qv_icmpge F d_T_applyStatements_33 rfl (by omega) (by omega) (fun hb => ?_) (fun hb => ?_)
        ·
          omega
        ·
          refine qv_aload_n F d_T_applyStatements_36 3 rfl ?_
          refine qv_aload_n F d_T_applyStatements_37 4 rfl ?_
          refine qv_iload_n F d_T_applyStatements_38 2 rfl ?_
          refine qv_iload F d_T_applyStatements_39 0 rfl ?_
          refine i_T_79v F (c_T_applyStatement l X (sr_ σ (it_ (sx_ σ (σ 23) k) c r)) k c (by omega) (by omega) ht hB2 h2) (by decide) (Nat.le_of_ble_eq_true rfl) d_T_applyStatements_41 ?_
          rw [sr_sr]
          refine qv_iinc (L' := [(5, _), (4, _), (3, _), (0, _), (1, _), (2, _)]) F _ d_T_applyStatements_44 0 rfl (ii_1 _) (by decide) rfl ?_
          refine qv_goto F d_T_applyStatements_47 rfl ?_
          exact ih2
set_option maxRecDepth 100000 in
set_option maxHeartbeats 4000000 in
theorem c_T_applyPasses (l : Launch) (X : wX) (σ : sg) (k c d : Nat) (hk : k < 8) (hc : c < 8) (hd : d < 8) (ht : tw_ σ) (h1 : B_ (rg_ σ)) (h2 : ∀ k, σ 23 k < 256) : mt_ l X y_T_applyPasses w_T_applyPasses 2 [.ref (adr X 3), .ref (adr X 1), .int (nI k), .int (nI c), .int (nI d)] σ (ev_ (sr_ σ (pp_ σ (σ 23) k c d (σ 13 k) (rg_ σ)))) := by
  refine mt_of (own := R_T) rfl pl_T (Nat.le_of_ble_eq_true rfl) ?_
  intro zp ze zs zm za zb zt zc F hr hlk
  refine qv_sub (L' := [(0, _), (1, _), (2, _), (3, _), (4, _)]) [0, 1, 2, 3, 4] rfl ?_
  have t13 := ht.2.2.2.2.2.2.2.2.1 k
  refine qv_iload_n F d_T_applyPasses_0 2 rfl ?_
  refine qv_iconst F (nI 4) d_T_applyPasses_1 ic_4 ?_
  refine qv_imul F d_T_applyPasses_2 ?_
  refine qv_istore (L' := [(5, _), (0, _), (1, _), (2, _), (3, _), (4, _)]) F d_T_applyPasses_3 (by decide) rfl ?_
  refine qv_iload F d_T_applyPasses_5 0 rfl ?_
  refine qv_aload_n F d_T_applyPasses_7 2 rfl ?_
  refine g_T_119 F d_T_applyPasses_8 ?_
  refine qv_iload_n F d_T_applyPasses_11 3 rfl ?_
  refine ld_13 F (by omega) d_T_applyPasses_12 ?_
  refine qv_iadd F d_T_applyPasses_13 ?_
  refine qv_istore (L' := [(6, _), (5, _), (0, _), (1, _), (2, _), (3, _), (4, _)]) F d_T_applyPasses_14 (by decide) rfl ?_
  refine qv_iload F d_T_applyPasses_16 1 rfl ?_
  refine qv_istore (L' := [(7, _), (6, _), (5, _), (0, _), (1, _), (2, _), (3, _), (4, _)]) F d_T_applyPasses_18 (by decide) rfl ?_
  have lp := lu_up (fun j (_ : Unit) => vv_ zp l ze (rr_ 2) zs zm za zb zt zc (MQ zb (mq_ X (ev_ (sr_ σ (pp_ σ (σ 23) k c d (σ 13 k) (rg_ σ))))) za zs 0 0 (aw_ X)) X 10 [(7, .int (nI (k * 4 + j))), (6, .int (nI (k * 4 + σ 13 k))), (5, .int (nI (k * 4))), (0, .ref (adr X 3)), (1, .ref (adr X 1)), (2, .int (nI k)), (3, .int (nI c)), (4, .int (nI d))] (sr_ σ (pp_ σ (σ 23) k c d j (rg_ σ))) 20 []) (fun _ _ => True) (σ 13 k) ?_ ?_ 0 () (Nat.zero_le _) trivial
  · exact qv_st (sr_rg σ).symm lp
  · intro _ _
    refine qv_iload F d_T_applyPasses_20 0 rfl ?_
    refine qv_iload F d_T_applyPasses_22 1 rfl ?_
    refine qv_icmpge F d_T_applyPasses_24 rfl (by omega) (by omega) (fun hb => ?_) (fun hb => ?_)
    ·
      exact qv_ret F hr hlk d_T_applyPasses_94 (ev_of rfl)
    ·
      omega
  · intro j _ hj _ ih
    have ih := ih () trivial
    have t14 := ht.2.2.2.2.2.2.2.2.2.1 (k * 4 + j)
    have t15 := ht.2.2.2.2.2.2.2.2.2.2.1 (k * 4 + j)
    have t16 := ht.2.2.2.2.2.2.2.2.2.2.2 (k * 4 + j)
    have hB : B_ (pp_ σ (σ 23) k c d j (rg_ σ)) := pp_B h2 h1
    have e1 : pp_ σ (σ 23) k c d (j + 1) (rg_ σ) = pa_ σ (σ 23) c d (k * 4 + j) (pp_ σ (σ 23) k c d j (rg_ σ)) := rfl
    rw [e1] at ih
    generalize pp_ σ (σ 23) k c d j (rg_ σ) = r at hB ih ⊢
    refine qv_iload F d_T_applyPasses_20 0 rfl ?_
    refine qv_iload F d_T_applyPasses_22 1 rfl ?_
    refine qv_icmpge F d_T_applyPasses_24 rfl (by omega) (by omega) (fun hb => ?_) (fun hb => ?_)
    ·
      omega
    ·
      refine qv_aload_n F d_T_applyPasses_27 4 rfl ?_
      refine g_T_122 F d_T_applyPasses_28 ?_
      refine qv_iload F d_T_applyPasses_31 0 rfl ?_
      refine ld_14 F (by omega) d_T_applyPasses_33 ?_
      refine qv_istore (L' := [(8, _), (7, _), (6, _), (5, _), (0, _), (1, _), (2, _), (3, _), (4, _)]) F d_T_applyPasses_34 (by decide) rfl ?_
      refine qv_aload_n F d_T_applyPasses_36 5 rfl ?_
      refine g_T_125 F d_T_applyPasses_37 ?_
      refine qv_iload F d_T_applyPasses_40 1 rfl ?_
      refine ld_15 F (by omega) d_T_applyPasses_42 ?_
      refine qv_istore (L' := [(9, _), (8, _), (7, _), (6, _), (5, _), (0, _), (1, _), (2, _), (3, _), (4, _)]) F d_T_applyPasses_43 (by decide) rfl ?_
      refine qv_aload_n F d_T_applyPasses_45 6 rfl ?_
      refine g_T_128 F d_T_applyPasses_46 ?_
      refine qv_iload F d_T_applyPasses_49 2 rfl ?_
      refine ld_16 F (by omega) d_T_applyPasses_51 ?_
      refine qv_ifeq F d_T_applyPasses_52 rfl (show σ 16 (k * 4 + j) < 2 ^ 31 by omega) (fun hb => ?_) (fun hb => ?_)
      ·
        have hb : σ 16 (k * 4 + j) = 0 := hb
        have e2 : pa_ σ (σ 23) c d (k * 4 + j) r = ad_ (σ 23) d (σ 14 (k * 4 + j)) (r.1 (c * 16 + σ 15 (k * 4 + j))) r := by unfold pa_; rw [if_pos hb]
        rw [e2] at ih
        refine qv_aload_n F d_T_applyPasses_73 5 rfl ?_
        refine qv_iload F d_T_applyPasses_74 9 rfl ?_
        refine qv_iload F d_T_applyPasses_76 1 rfl ?_
        refine qv_aload_n F d_T_applyPasses_78 5 rfl ?_
        refine qv_iload_n F d_T_applyPasses_79 8 rfl ?_
        refine qv_iload F d_T_applyPasses_80 0 rfl ?_
        refine i_T_96i F (c_T_pointedTo l X (sr_ σ r) c (σ 15 (k * 4 + j)) (by omega)) (by decide) (Nat.le_of_ble_eq_true rfl) d_T_applyPasses_82 ?_
        refine i_T_92v F (c_T_addPointed l X (sr_ σ r) d (σ 14 (k * 4 + j)) (r.1 (c * 16 + σ 15 (k * 4 + j))) (by omega) t14 hB.1 h2) (by decide) (Nat.le_of_ble_eq_true rfl) d_T_applyPasses_85 ?_
        rw [sr_sr]
        refine qv_sub (L' := [(7, _), (6, _), (5, _), (0, _), (1, _), (2, _), (3, _), (4, _)]) [2, 3, 4, 5, 6, 7, 8, 9] rfl ?_
        refine qv_iinc (L' := [(7, _), (6, _), (5, _), (0, _), (1, _), (2, _), (3, _), (4, _)]) F _ d_T_applyPasses_88 0 rfl (ii_1 _) (by decide) rfl ?_
        refine qv_goto F d_T_applyPasses_91 rfl ?_
        exact ih
      ·
        have hb : σ 16 (k * 4 + j) ≠ 0 := hb
        have e2 : pa_ σ (σ 23) c d (k * 4 + j) r = ad_ (σ 23) c (σ 14 (k * 4 + j)) (r.1 (d * 16 + σ 15 (k * 4 + j))) r := by unfold pa_; rw [if_neg hb]
        rw [e2] at ih
        refine qv_aload_n F d_T_applyPasses_55 5 rfl ?_
        refine qv_iload_n F d_T_applyPasses_56 8 rfl ?_
        refine qv_iload F d_T_applyPasses_57 1 rfl ?_
        refine qv_aload_n F d_T_applyPasses_59 5 rfl ?_
        refine qv_iload F d_T_applyPasses_60 9 rfl ?_
        refine qv_iload F d_T_applyPasses_62 0 rfl ?_
        refine i_T_96i F (c_T_pointedTo l X (sr_ σ r) d (σ 15 (k * 4 + j)) (by omega)) (by decide) (Nat.le_of_ble_eq_true rfl) d_T_applyPasses_64 ?_
        refine i_T_92v F (c_T_addPointed l X (sr_ σ r) c (σ 14 (k * 4 + j)) (r.1 (d * 16 + σ 15 (k * 4 + j))) (by omega) t14 hB.1 h2) (by decide) (Nat.le_of_ble_eq_true rfl) d_T_applyPasses_67 ?_
        rw [sr_sr]
        refine qv_goto F d_T_applyPasses_70 rfl ?_
        refine qv_sub (L' := [(7, _), (6, _), (5, _), (0, _), (1, _), (2, _), (3, _), (4, _)]) [2, 3, 4, 5, 6, 7, 8, 9] rfl ?_
        refine qv_iinc (L' := [(7, _), (6, _), (5, _), (0, _), (1, _), (2, _), (3, _), (4, _)]) F _ d_T_applyPasses_88 0 rfl (ii_1 _) (by decide) rfl ?_
        refine qv_goto F d_T_applyPasses_91 rfl ?_
        exact ih
set_option maxRecDepth 100000 in
set_option maxHeartbeats 4000000 in
theorem c_T_applyCalls (l : Launch) (X : wX) (σ : sg) (hn : σ 1 7 ≤ 8) (hb0 : ∀ k, k < σ 1 7 → σ 18 k + σ 17 (σ 11 k) ≤ 8) (ht : tw_ σ) (h1 : B_ (rg_ σ)) (h2 : ∀ k, σ 23 k < 256) : mt_ l X y_T_applyCalls w_T_applyCalls 3 [.ref (adr X 3), .ref (adr X 1), .ref (adr X 2)] σ (ev_ (sr_ σ (cs_ σ (σ 23) (σ 17) (σ 18) (σ 1 7) (rg_ σ)))) := by
  refine mt_of (own := R_T) rfl pl_T (Nat.le_of_ble_eq_true rfl) ?_
  intro zp ze zs zm za zb zt zc F hr hlk
  refine qv_sub (L' := [(0, _), (1, _), (2, _)]) [0, 1, 2] rfl ?_
  refine qv_iconst F (nI 0) d_T_applyCalls_0 ic_0 ?_
  refine qv_istore_n (L' := [(3, _), (0, _), (1, _), (2, _)]) F d_T_applyCalls_1 (by decide) rfl ?_
  have lp := lu_up (fun k (_ : Unit) => vv_ zp l ze (rr_ 3) zs zm za zb zt zc (MQ zb (mq_ X (ev_ (sr_ σ (cs_ σ (σ 23) (σ 17) (σ 18) (σ 1 7) (rg_ σ))))) za zs 0 0 (aw_ X)) X 6 [(3, .int (nI k)), (0, .ref (adr X 3)), (1, .ref (adr X 1)), (2, .ref (adr X 2))] (sr_ σ (cs_ σ (σ 23) (σ 17) (σ 18) k (rg_ σ))) 2 []) (fun _ _ => True) (σ 1 7) ?_ ?_ 0 () (Nat.zero_le _) trivial
  · exact qv_st (sr_rg σ).symm lp
  · intro _ _
    refine qv_iload_n F d_T_applyCalls_2 0 rfl ?_
    refine qv_aload_n F d_T_applyCalls_3 2 rfl ?_
    refine g_T_106 F d_T_applyCalls_4 ?_
    refine qv_icmpge F d_T_applyCalls_7 rfl (show σ 1 7 < 2 ^ 31 by omega) (show σ 1 7 < 2 ^ 31 by omega) (fun hb => ?_) (fun hb => ?_)
    ·
      exact qv_ret F hr hlk d_T_applyCalls_60 (ev_of rfl)
    ·
      exact absurd (show σ 1 7 < σ 1 7 from hb) (by omega)
  · intro k _ hk _ ih
    have ih := ih () trivial
    have t11 := ht.2.2.2.2.2.2.1 k
    have m8 := hb0 k hk
    have hB : B_ (cs_ σ (σ 23) (σ 17) (σ 18) k (rg_ σ)) := cs_B h2 h1
    have e1 : cs_ σ (σ 23) (σ 17) (σ 18) (k + 1) (rg_ σ) = it_ (fun c => pp_ σ (σ 23) k c (σ 18 k + c) (σ 13 k)) (σ 17 (σ 11 k)) (cs_ σ (σ 23) (σ 17) (σ 18) k (rg_ σ)) := rfl
    rw [e1] at ih
    generalize cs_ σ (σ 23) (σ 17) (σ 18) k (rg_ σ) = r at hB ih ⊢
    refine qv_iload_n F d_T_applyCalls_2 0 rfl ?_
    refine qv_aload_n F d_T_applyCalls_3 2 rfl ?_
    refine g_T_106 F d_T_applyCalls_4 ?_
    refine qv_icmpge F d_T_applyCalls_7 rfl (by omega) (show σ 1 7 < 2 ^ 31 by omega) (fun hb => ?_) (fun hb => ?_)
    ·
      exact absurd (show σ 1 7 ≤ k from hb) (by omega)
    ·
      refine qv_aload_n F d_T_applyCalls_10 3 rfl ?_
      refine g_T_68 F d_T_applyCalls_11 ?_
      refine qv_aload_n F d_T_applyCalls_14 2 rfl ?_
      refine g_T_109 F d_T_applyCalls_15 ?_
      refine qv_iload_n F d_T_applyCalls_18 0 rfl ?_
      refine ld_11 F (show k < 8 by omega) d_T_applyCalls_19 ?_
      refine ld_17 F (show σ 11 k < 4 from t11) d_T_applyCalls_20 ?_
      refine qv_istore (L' := [(4, _), (3, _), (0, _), (1, _), (2, _)]) F d_T_applyCalls_21 (by decide) rfl ?_
      refine qv_iconst F (nI 0) d_T_applyCalls_23 ic_0 ?_
      refine qv_istore (L' := [(5, _), (4, _), (3, _), (0, _), (1, _), (2, _)]) F d_T_applyCalls_24 (by decide) rfl ?_
      have lp2 := lu_up (fun c (_ : Unit) => vv_ zp l ze (rr_ 3) zs zm za zb zt zc (MQ zb (mq_ X (ev_ (sr_ σ (cs_ σ (σ 23) (σ 17) (σ 18) (σ 1 7) (rg_ σ))))) za zs 0 0 (aw_ X)) X 6 [(5, .int (nI c)), (4, .int (nI (σ 17 (σ 11 k)))), (3, .int (nI k)), (0, .ref (adr X 3)), (1, .ref (adr X 1)), (2, .ref (adr X 2))] (sr_ σ (it_ (fun c => pp_ σ (σ 23) k c (σ 18 k + c) (σ 13 k)) c r)) 26 []) (fun _ _ => True) (σ 17 (σ 11 k)) ?_ ?_ 0 () (Nat.zero_le _) trivial
      · exact lp2
      · intro _ _
        refine qv_iload F d_T_applyCalls_26 0 rfl ?_
        refine qv_iload F d_T_applyCalls_28 1 rfl ?_
        refine qv_icmpge F d_T_applyCalls_30 rfl (by omega) (by omega) (fun hb => ?_) (fun hb => ?_)
        ·
          refine qv_sub (L' := [(3, _), (0, _), (1, _), (2, _)]) [2, 3, 4, 5] rfl ?_
          refine qv_iinc (L' := [(3, _), (0, _), (1, _), (2, _)]) F _ d_T_applyCalls_54 0 rfl (ii_1 _) (by decide) rfl ?_
          refine qv_goto F d_T_applyCalls_57 rfl ?_
          exact ih
        ·
          omega
      · intro c _ hc _ ih2
        have ih2 := ih2 () trivial
        have hB2 : B_ (it_ (fun c => pp_ σ (σ 23) k c (σ 18 k + c) (σ 13 k)) c r) := it_B (fun _ s hs => pp_B h2 hs) c r hB
        refine qv_iload F d_T_applyCalls_26 0 rfl ?_
        refine qv_iload F d_T_applyCalls_28 1 rfl ?_
        refine qv_icmpge F d_T_applyCalls_30 rfl (by omega) (by omega) (fun hb => ?_) (fun hb => ?_)
        ·
          omega
        ·
          refine qv_aload_n F d_T_applyCalls_33 3 rfl ?_
          refine qv_aload_n F d_T_applyCalls_34 4 rfl ?_
          refine qv_iload_n F d_T_applyCalls_35 2 rfl ?_
          refine qv_iload F d_T_applyCalls_36 0 rfl ?_
          refine qv_aload_n F d_T_applyCalls_38 5 rfl ?_
          refine qv_iload_n F d_T_applyCalls_39 2 rfl ?_
          refine qv_iload F d_T_applyCalls_40 0 rfl ?_
          refine i_T_112i F (c_N_contextBy l X (sr_ σ (it_ (fun c => pp_ σ (σ 23) k c (σ 18 k + c) (σ 13 k)) c r)) k c (by omega)) (by decide) (Nat.le_of_ble_eq_true rfl) d_T_applyCalls_42 ?_
          refine i_T_115v F (c_T_applyPasses l X (sr_ σ (it_ (fun c => pp_ σ (σ 23) k c (σ 18 k + c) (σ 13 k)) c r)) k c (σ 18 k + c) (by omega) (by omega) (by omega) ht hB2 h2) (by decide) (Nat.le_of_ble_eq_true rfl) d_T_applyCalls_45 ?_
          rw [sr_sr]
          refine qv_iinc (L' := [(5, _), (4, _), (3, _), (0, _), (1, _), (2, _)]) F _ d_T_applyCalls_48 0 rfl (ii_1 _) (by decide) rfl ?_
          refine qv_goto F d_T_applyCalls_51 rfl ?_
          exact ih2
end
section
/-! contexts: who reaches whom, counts -/
set_option maxRecDepth 100000 in
set_option maxHeartbeats 4000000 in
theorem c_N_findReached (l : Launch) (X : wX) (σ : sg) (hn : σ 1 7 ≤ 8) (h11 : ∀ k, σ 11 k < 4) (h12 : ∀ k, σ 12 k < 4) : mt_ l X y_N_findReached w_N_findReached 1 [.ref (adr X 2), .ref (adr X 1)] σ (ev_ (ua σ 19 (mk_ (wc_ (c0_ σ (σ 1 7)))))) := by
  refine mt_of (own := R_N) rfl pl_N (Nat.le_of_ble_eq_true rfl) ?_
  intro zp ze zs zm za zb zt zc F hr hlk
  refine qv_sub (L' := [(0, _), (1, _)]) [0, 1] rfl ?_
  refine qv_aload_n F d_N_findReached_0 0 rfl ?_
  refine g_N_22 F d_N_findReached_1 ?_
  refine qv_iconst F (nI 0) d_N_findReached_4 ic_0 ?_
  refine i_N_28v F (c_A_fill l X σ 19 4 0 rfl (by decide)) (by decide) (Nat.le_of_ble_eq_true rfl) d_N_findReached_5 ?_
  refine qv_iconst F (nI 0) d_N_findReached_8 ic_0 ?_
  refine qv_istore_n (L' := [(2, _), (0, _), (1, _)]) F d_N_findReached_9 (by decide) rfl ?_
  have lp := lu_up (fun i (g : Nat → Nat) => vv_ zp l ze (rr_ 1) zs zm za zb zt zc (MQ zb (mq_ X (ev_ (ua σ 19 (mk_ (wc_ (c0_ σ (σ 1 7))))))) za zs 0 0 (aw_ X)) X 4 [(2, .int (nI i)), (0, .ref (adr X 2)), (1, .ref (adr X 1))] (ua σ 19 g) 10 []) (fun i g => ∀ a, a < 4 → g a < 16 ∧ ∀ b, b < 4 → (g a).testBit b = c0_ σ i a b) (σ 1 7) ?_ ?_ 0 (fun _ => 0) (Nat.zero_le _) (fun a ha => ⟨by decide, fun b hb => Nat.zero_testBit b⟩)
  · exact lp
  · intro g hg
    refine qv_iload_n F d_N_findReached_10 0 rfl ?_
    refine qv_aload_n F d_N_findReached_11 2 rfl ?_
    refine g_N_44 F d_N_findReached_12 ?_
    refine qv_icmpge F d_N_findReached_15 rfl (show σ 1 7 < 2 ^ 31 by omega) (show σ 1 7 < 2 ^ 31 by omega) (fun hb => ?_) (fun hb => ?_)
    ·
      refine qv_iconst F (nI 0) d_N_findReached_46 ic_0 ?_
      refine qv_istore_n (L' := [(2, _), (0, _), (1, _)]) F d_N_findReached_47 (by decide) rfl ?_
      have lpm := lu_up (fun mm (g : Nat → Nat) => vv_ zp l ze (rr_ 1) zs zm za zb zt zc (MQ zb (mq_ X (ev_ (ua σ 19 (mk_ (wc_ (c0_ σ (σ 1 7))))))) za zs 0 0 (aw_ X)) X 4 [(2, .int (nI mm)), (0, .ref (adr X 2)), (1, .ref (adr X 1))] (ua σ 19 g) 48 []) (fun mm g => ∀ a, a < 4 → g a < 16 ∧ ∀ b, b < 4 → (g a).testBit b = ww_ (c0_ σ (σ 1 7)) mm a b) 4 ?_ ?_ 0 g (Nat.zero_le _) hg
      · exact lpm
      · intro g hg
        refine qv_iload_n F d_N_findReached_48 0 rfl ?_
        refine qv_iconst F (nI 4) d_N_findReached_49 ic_4 ?_
        refine qv_icmpge F d_N_findReached_50 rfl (by decide) (by decide) (fun hb => ?_) (fun hb => ?_)
        ·
          refine qv_ext 19 (z := false) (n := 4) (g := mk_ (wc_ (c0_ σ (σ 1 7)))) rfl (fun a ha => ?_) ?_
          · show mk_ (wc_ (c0_ σ (σ 1 7))) a = g a
            exact (mk_of (hg a ha).1 (hg a ha).2).symm
          ·
            exact qv_ret F hr hlk d_N_findReached_100 (ev_of (ua_ua σ 19 g _))
        ·
          exact absurd hb (by decide)
      · intro mm g hm hg ih
        refine qv_iload_n F d_N_findReached_48 0 rfl ?_
        refine qv_iconst F (nI 4) d_N_findReached_49 ic_4 ?_
        refine qv_icmpge F d_N_findReached_50 rfl (by omega) (by omega) (fun hb => ?_) (fun hb => ?_)
        ·
          omega
        ·
          refine qv_iconst F (nI 0) d_N_findReached_53 ic_0 ?_
          refine qv_istore_n (L' := [(3, _), (2, _), (0, _), (1, _)]) F d_N_findReached_54 (by decide) rfl ?_
          have hw : ∀ a b, ww_ (c0_ σ (σ 1 7)) (mm + 1) a b = w1_ mm (ww_ (c0_ σ (σ 1 7)) mm) a b := fun _ _ => rfl
          generalize ww_ (c0_ σ (σ 1 7)) mm = C at hg hw
          have lpi := lu_up (fun i (g : Nat → Nat) => vv_ zp l ze (rr_ 1) zs zm za zb zt zc (MQ zb (mq_ X (ev_ (ua σ 19 (mk_ (wc_ (c0_ σ (σ 1 7))))))) za zs 0 0 (aw_ X)) X 4 [(3, .int (nI i)), (2, .int (nI mm)), (0, .ref (adr X 2)), (1, .ref (adr X 1))] (ua σ 19 g) 55 []) (fun i g => ∀ a, a < 4 → g a < 16 ∧ ∀ b, b < 4 → (g a).testBit b = if a < i then w1_ mm C a b else C a b) 4 ?_ ?_ 0 g (Nat.zero_le _) (fun a ha => ⟨(hg a ha).1, fun b hb => by rw [if_neg (by omega)]; exact (hg a ha).2 b hb⟩)
          · exact lpi
          · intro g hg
            refine qv_iload_n F d_N_findReached_55 0 rfl ?_
            refine qv_iconst F (nI 4) d_N_findReached_56 ic_4 ?_
            refine qv_icmpge F d_N_findReached_57 rfl (by decide) (by decide) (fun hb => ?_) (fun hb => ?_)
            ·
              refine qv_sub (L' := [(2, _), (0, _), (1, _)]) [1, 2, 3] rfl ?_
              refine qv_iinc (L' := [(2, _), (0, _), (1, _)]) F _ d_N_findReached_94 0 rfl (ii_1 _) (by decide) rfl ?_
              refine qv_goto F d_N_findReached_97 rfl ?_
              refine ih g (fun a ha => ⟨(hg a ha).1, fun b hb => ?_⟩)
              rw [(hg a ha).2 b hb, if_pos ha, hw]
            ·
              exact absurd hb (by decide)
          · intro i g hi hg ihi
            have b1 := (hg i hi).1
            have hgi : (g i).testBit mm = C i mm := by rw [(hg i hi).2 mm hm, if_neg (by omega)]
            have hgm : ∀ b, b < 4 → (g mm).testBit b = C mm b := fun b hb => by
              rw [(hg mm hm).2 b hb]
              by_cases e : mm < i
              · rw [if_pos e]; exact w1_row mm C b
              · rw [if_neg e]
            refine qv_iload_n F d_N_findReached_55 0 rfl ?_
            refine qv_iconst F (nI 4) d_N_findReached_56 ic_4 ?_
            refine qv_icmpge F d_N_findReached_57 rfl (by omega) (by omega) (fun hb => ?_) (fun hb => ?_)
            ·
              omega
            ·
              refine qv_aload_n F d_N_findReached_60 2 rfl ?_
              refine g_N_22 F d_N_findReached_61 ?_
              refine qv_iload_n F d_N_findReached_64 0 rfl ?_
              refine ld_19 F hi d_N_findReached_65 ?_
              refine qv_iload_n F d_N_findReached_66 1 rfl ?_
              refine i_N_53i F (c_P_hasBit l X (ua σ 19 g) (g i) mm (by omega) (by omega)) (by decide) (Nat.le_of_ble_eq_true rfl) d_N_findReached_67 ?_
              refine qv_ifeqB F d_N_findReached_70 rfl (fun hb => ?_) (fun hb => ?_)
              ·
                refine qv_iinc (L' := [(3, _), (2, _), (0, _), (1, _)]) F _ d_N_findReached_88 0 rfl (ii_1 _) (by decide) rfl ?_
                refine qv_goto F d_N_findReached_91 rfl ?_
                refine ihi g (fun a ha => ⟨(hg a ha).1, fun b hb2 => ?_⟩)
                rw [(hg a ha).2 b hb2]
                by_cases e : a = i
                · subst e
                  rw [if_neg (by omega), if_pos (by omega)]
                  unfold w1_
                  rw [← hgi, hb, Bool.false_and, Bool.or_false]
                · by_cases e2 : a < i
                  · rw [if_pos e2, if_pos (by omega)]
                  · rw [if_neg e2, if_neg (by omega)]
              ·
                refine qv_aload_n F d_N_findReached_73 2 rfl ?_
                refine g_N_22 F d_N_findReached_74 ?_
                refine qv_iload_n F d_N_findReached_77 0 rfl ?_
                refine qv_dup2 F d_N_findReached_78 rfl rfl ?_
                refine ld_19 F hi d_N_findReached_79 ?_
                refine qv_aload_n F d_N_findReached_80 2 rfl ?_
                refine g_N_22 F d_N_findReached_81 ?_
                refine qv_iload_n F d_N_findReached_84 1 rfl ?_
                refine ld_19 F hm d_N_findReached_85 ?_
                refine qv_ior F d_N_findReached_86 ?_
                refine sv_19 F hi d_N_findReached_87 ?_
                refine qv_st (us_ua σ 19 g i (g i ||| g mm)) ?_
                refine qv_iinc (L' := [(3, _), (2, _), (0, _), (1, _)]) F _ d_N_findReached_88 0 rfl (ii_1 _) (by decide) rfl ?_
                refine qv_goto F d_N_findReached_91 rfl ?_
                refine ihi _ (fun a ha => ⟨?_, fun b hb2 => ?_⟩)
                · by_cases e : a = i
                  · subst e; rw [up_eq]; exact or_16 (hg a ha).1 (hg mm hm).1
                  · rw [up_ne e]; exact (hg a ha).1
                · by_cases e : a = i
                  · subst e
                    rw [up_eq, Nat.testBit_or, (hg a ha).2 b hb2, hgm b hb2, if_neg (by omega), if_pos (by omega)]
                    unfold w1_
                    rw [← hgi, hb, Bool.true_and]
                  · rw [up_ne e, (hg a ha).2 b hb2]
                    by_cases e2 : a < i
                    · rw [if_pos e2, if_pos (by omega)]
                    · rw [if_neg e2, if_neg (by omega)]
    ·
      exact absurd (show σ 1 7 < σ 1 7 from hb) (by omega)
  · intro i g hi hg ih
    have q11 := h11 i
    have q12 := h12 i
    have hp : 1 * 2 ^ σ 12 i < 2 ^ 4 := by rw [Nat.one_mul]; exact Nat.pow_lt_pow_right (by decide) q12
    have hp2 : 1 * 2 ^ σ 12 i < 2 ^ 32 := Nat.lt_trans hp (by decide)
    refine qv_iload_n F d_N_findReached_10 0 rfl ?_
    refine qv_aload_n F d_N_findReached_11 2 rfl ?_
    refine g_N_44 F d_N_findReached_12 ?_
    refine qv_icmpge F d_N_findReached_15 rfl (by omega) (show σ 1 7 < 2 ^ 31 by omega) (fun hb => ?_) (fun hb => ?_)
    ·
      exact absurd (show σ 1 7 ≤ i from hb) (by omega)
    ·
      refine qv_aload_n F d_N_findReached_18 1 rfl ?_
      refine g_N_22 F d_N_findReached_19 ?_
      refine qv_aload_n F d_N_findReached_22 2 rfl ?_
      refine g_N_47 F d_N_findReached_23 ?_
      refine qv_iload_n F d_N_findReached_26 0 rfl ?_
      refine ld_11 F (show i < 8 by omega) d_N_findReached_27 ?_
      refine qv_dup2 F d_N_findReached_28 rfl rfl ?_
      refine ld_19 F q11 d_N_findReached_29 ?_
      refine qv_iconst F (nI 1) d_N_findReached_30 ic_1 ?_
      refine qv_aload_n F d_N_findReached_31 2 rfl ?_
      refine g_N_50 F d_N_findReached_32 ?_
      refine qv_iload_n F d_N_findReached_35 0 rfl ?_
      refine ld_12 F (show i < 8 by omega) d_N_findReached_36 ?_
      refine qv_ishl F d_N_findReached_37 (show σ 12 i < 32 by omega) hp2 ?_
      refine qv_ior F d_N_findReached_38 ?_
      refine sv_19 F q11 d_N_findReached_39 ?_
      refine qv_st (us_ua σ 19 g (σ 11 i) (g (σ 11 i) ||| 1 * 2 ^ σ 12 i)) ?_
      refine qv_iinc (L' := [(2, _), (0, _), (1, _)]) F _ d_N_findReached_40 0 rfl (ii_1 _) (by decide) rfl ?_
      refine qv_goto F d_N_findReached_43 rfl ?_
      refine ih _ (fun a ha => ⟨?_, fun b hb => c0_row q12 hb ((hg a ha).2 b hb)⟩)
      by_cases e : a = σ 11 i
      · subst e; rw [up_eq]; exact or_16 (hg _ ha).1 hp
      · rw [up_ne e]; exact (hg a ha).1
end
section
/-! diagrams -/
set_option maxRecDepth 100000 in
set_option maxHeartbeats 4000000 in
theorem c_D_findNode (l : Launch) (X : wX) (σ : sg) (z o : Nat) (hm : σ 4 5 < 512) (hz : z < 2 ^ 31) (ho : o < 2 ^ 31) (h26 : ∀ x, x < σ 4 5 → σ 26 x < 2 ^ 31) (h27 : ∀ x, x < σ 4 5 → σ 27 x < 2 ^ 31) : mt_ l X y_D_findNode w_D_findNode 0 [.ref (adr X 4), .int (nI z), .int (nI o)] σ (fun r τ => (∃ x, x < σ 4 5 ∧ σ 26 x = z ∧ σ 27 x = o ∧ r = some (.int (nI x)) ∧ τ = σ) ∨ ((∀ x, x < σ 4 5 → ¬ (σ 26 x = z ∧ σ 27 x = o)) ∧ r = some (.int (nI (σ 4 5))) ∧ τ = us (us (us σ 26 (σ 4 5) z) 27 (σ 4 5) o) 4 5 (σ 4 5 + 1))) := by
  refine mt_of (own := R_D) rfl pl_D (Nat.le_of_ble_eq_true rfl) ?_
  intro zp ze zs zm za zb zt zc F hr hlk
  refine qv_sub (L' := [(0, _), (1, _), (2, _)]) [0, 1, 2] rfl ?_
  refine qv_iconst F (nI 0) d_D_findNode_0 ic_0 ?_
  refine qv_istore_n (L' := [(3, _), (0, _), (1, _), (2, _)]) F d_D_findNode_1 (by decide) rfl ?_
  have lp := lu_up (fun i (_ : Unit) => vv_ zp l ze (rr_ 0) zs zm za zb zt zc (MQ zb (mq_ X (fun r τ => (∃ x, x < σ 4 5 ∧ σ 26 x = z ∧ σ 27 x = o ∧ r = some (.int (nI x)) ∧ τ = σ) ∨ ((∀ x, x < σ 4 5 → ¬ (σ 26 x = z ∧ σ 27 x = o)) ∧ r = some (.int (nI (σ 4 5))) ∧ τ = us (us (us σ 26 (σ 4 5) z) 27 (σ 4 5) o) 4 5 (σ 4 5 + 1)))) za zs 0 0 (aw_ X)) X 4 [(3, .int (nI i)), (0, .ref (adr X 4)), (1, .int (nI z)), (2, .int (nI o))] σ 2 []) (fun i _ => ∀ x, x < i → ¬ (σ 26 x = z ∧ σ 27 x = o)) (σ 4 5) ?_ ?_ 0 () (Nat.zero_le _) (fun x hx => by omega)
  · exact lp
  · intro _ hI
    refine qv_iload_n F d_D_findNode_2 0 rfl ?_
    refine qv_aload_n F d_D_findNode_3 1 rfl ?_
    refine g_D_28 F d_D_findNode_4 ?_
    refine qv_icmpge F d_D_findNode_7 rfl (by omega) (by omega) (fun hb => ?_) (fun hb => ?_)
    ·
      refine qv_aload_n F d_D_findNode_38 1 rfl ?_
      refine g_D_22 F d_D_findNode_39 ?_
      refine qv_aload_n F d_D_findNode_42 1 rfl ?_
      refine g_D_28 F d_D_findNode_43 ?_
      refine qv_iload_n F d_D_findNode_46 2 rfl ?_
      refine sv_26 F hm d_D_findNode_47 ?_
      refine qv_aload_n F d_D_findNode_48 1 rfl ?_
      refine g_D_25 F d_D_findNode_49 ?_
      refine qv_aload_n F d_D_findNode_52 1 rfl ?_
      refine g_D_28 F d_D_findNode_53 ?_
      refine qv_iload_n F d_D_findNode_56 3 rfl ?_
      refine sv_27 F hm d_D_findNode_57 ?_
      refine qv_aload_n F d_D_findNode_58 1 rfl ?_
      refine qv_dup F d_D_findNode_59 rfl ?_
      refine g_D_28 F d_D_findNode_60 ?_
      refine qv_iconst F (nI 1) d_D_findNode_63 ic_1 ?_
      refine qv_iadd F d_D_findNode_64 ?_
      refine p_D_28 F d_D_findNode_65 ?_
      refine qv_aload_n F d_D_findNode_68 1 rfl ?_
      refine g_D_28 F d_D_findNode_69 ?_
      refine qv_iconst F (nI 1) d_D_findNode_72 ic_1 ?_
      refine qv_isub F d_D_findNode_73 (by show 1 ≤ σ 4 5 + 1; omega) ?_
      exact qv_iret F hr hlk d_D_findNode_74 (Or.inr ⟨hI, rfl, rfl⟩)
    ·
      omega
  · intro i _ hi hI ih
    have b1 := h26 i hi
    have b2 := h27 i hi
    refine qv_iload_n F d_D_findNode_2 0 rfl ?_
    refine qv_aload_n F d_D_findNode_3 1 rfl ?_
    refine g_D_28 F d_D_findNode_4 ?_
    refine qv_icmpge F d_D_findNode_7 rfl (by omega) (by omega) (fun hb => ?_) (fun hb => ?_)
    ·
      omega
    ·
      refine qv_aload_n F d_D_findNode_10 1 rfl ?_
      refine g_D_22 F d_D_findNode_11 ?_
      refine qv_iload_n F d_D_findNode_14 0 rfl ?_
      refine ld_26 F (by omega) d_D_findNode_15 ?_
      refine qv_iload_n F d_D_findNode_16 2 rfl ?_
      refine qv_icmpne F d_D_findNode_17 rfl (by omega) (by omega) (fun hb => ?_) (fun hb => ?_)
      ·
        refine qv_iinc (L' := [(3, _), (0, _), (1, _), (2, _)]) F _ d_D_findNode_32 0 rfl (ii_1 _) (by decide) rfl ?_
        refine qv_goto F d_D_findNode_35 rfl ?_
        refine ih () (fun x hx q => ?_)
        by_cases e : x = i
        · subst e; exact hb q.1
        · exact hI x (by omega) q
      ·
        have e1 := hb
        refine qv_aload_n F d_D_findNode_20 1 rfl ?_
        refine g_D_25 F d_D_findNode_21 ?_
        refine qv_iload_n F d_D_findNode_24 0 rfl ?_
        refine ld_27 F (by omega) d_D_findNode_25 ?_
        refine qv_iload_n F d_D_findNode_26 3 rfl ?_
        refine qv_icmpne F d_D_findNode_27 rfl (by omega) (by omega) (fun hb => ?_) (fun hb => ?_)
        ·
          refine qv_iinc (L' := [(3, _), (0, _), (1, _), (2, _)]) F _ d_D_findNode_32 0 rfl (ii_1 _) (by decide) rfl ?_
          refine qv_goto F d_D_findNode_35 rfl ?_
          refine ih () (fun x hx q => ?_)
          by_cases e : x = i
          · subst e; exact hb q.2
          · exact hI x (by omega) q
        ·
          refine qv_iload_n F d_D_findNode_30 0 rfl ?_
          exact qv_iret F hr hlk d_D_findNode_31 (Or.inl ⟨i, hi, e1, hb, rfl, rfl⟩)
set_option maxRecDepth 100000 in
set_option maxHeartbeats 4000000 in
theorem c_D_joinPairs (l : Launch) (X : wX) (σ : sg) (n b : Nat) (hn : n ≤ 512) (hb0 : b + 512 < 2 ^ 31) (hF : ∀ k, k < 2 * n → σ 25 k < b) : mt_ l X y_D_joinPairs w_D_joinPairs 1 [.ref (adr X 4), .int (nI n), .int (nI b)] σ (fun r τ => ∃ (Z O G : Nat → Nat) (m : Nat), r = none ∧ τ = jt_ σ Z O m G ∧ jn_ (σ 25) b n Z O m G) := by
  refine mt_of (own := R_D) rfl pl_D (Nat.le_of_ble_eq_true rfl) ?_
  intro zp ze zs zm za zb zt zc F hr hlk
  refine qv_sub (L' := [(0, _), (1, _), (2, _)]) [0, 1, 2] rfl ?_
  refine qv_aload_n F d_D_joinPairs_0 0 rfl ?_
  refine qv_iconst F (nI 0) d_D_joinPairs_1 ic_0 ?_
  refine p_D_28 F d_D_joinPairs_2 ?_
  refine qv_iconst F (nI 0) d_D_joinPairs_5 ic_0 ?_
  refine qv_istore_n (L' := [(3, _), (0, _), (1, _), (2, _)]) F d_D_joinPairs_6 (by decide) rfl ?_
  rw [jt_0]
  have lp := lu_up (fun i (a : (Nat → Nat) × (Nat → Nat) × Nat × (Nat → Nat)) => vv_ zp l ze (rr_ 1) zs zm za zb zt zc (MQ zb (mq_ X (fun r τ => ∃ (Z O G : Nat → Nat) (m : Nat), r = none ∧ τ = jt_ σ Z O m G ∧ jn_ (σ 25) b n Z O m G)) za zs 0 0 (aw_ X)) X 6 [(3, .int (nI i)), (0, .ref (adr X 4)), (1, .int (nI n)), (2, .int (nI b))] (jt_ σ a.1 a.2.1 a.2.2.1 a.2.2.2) 7 []) (fun i a => jn_ (σ 25) b i a.1 a.2.1 a.2.2.1 a.2.2.2) n ?_ ?_ 0 (σ 26, σ 27, 0, σ 25) (Nat.zero_le _) jn_0
  · exact lp
  · intro a hI
    refine qv_iload_n F d_D_joinPairs_7 0 rfl ?_
    refine qv_iload_n F d_D_joinPairs_8 2 rfl ?_
    refine qv_icmpge F d_D_joinPairs_9 rfl (by omega) (by omega) (fun hb => ?_) (fun hb => ?_)
    ·
      exact qv_ret F hr hlk d_D_joinPairs_68 ⟨a.1, a.2.1, a.2.2.2, a.2.2.1, rfl, rfl, hI⟩
    ·
      omega
  · intro i a hi hI ih
    obtain ⟨Z, O, m, G⟩ := a
    have hI : jn_ (σ 25) b i Z O m G := hI
    have g1 : G (2 * i) = σ 25 (2 * i) := hI.1 _ (by omega)
    have g2 : G (2 * i + 1) = σ 25 (2 * i + 1) := hI.1 _ (by omega)
    have f1 := hF (2 * i) (by omega)
    have f2 := hF (2 * i + 1) (by omega)
    have hm := jn_m hI
    refine qv_iload_n F d_D_joinPairs_7 0 rfl ?_
    refine qv_iload_n F d_D_joinPairs_8 2 rfl ?_
    refine qv_icmpge F d_D_joinPairs_9 rfl (by omega) (by omega) (fun hb => ?_) (fun hb => ?_)
    ·
      omega
    ·
      refine qv_aload_n F d_D_joinPairs_12 1 rfl ?_
      refine g_D_15 F d_D_joinPairs_13 ?_
      refine qv_iconst F (nI 2) d_D_joinPairs_16 ic_2 ?_
      refine qv_iload_n F d_D_joinPairs_17 0 rfl ?_
      refine qv_imul F d_D_joinPairs_18 ?_
      refine ld_25 F (show 2 * i < 1024 by omega) d_D_joinPairs_19 ?_
      refine qv_istore (L' := [(4, _), (3, _), (0, _), (1, _), (2, _)]) F d_D_joinPairs_20 (by decide) rfl ?_
      refine qv_aload_n F d_D_joinPairs_22 2 rfl ?_
      refine g_D_15 F d_D_joinPairs_23 ?_
      refine qv_iconst F (nI 2) d_D_joinPairs_26 ic_2 ?_
      refine qv_iload_n F d_D_joinPairs_27 1 rfl ?_
      refine qv_imul F d_D_joinPairs_28 ?_
      refine qv_iconst F (nI 1) d_D_joinPairs_29 ic_1 ?_
      refine qv_iadd F d_D_joinPairs_30 ?_
      refine ld_25 F (show 2 * i + 1 < 1024 by omega) d_D_joinPairs_31 ?_
      refine qv_istore (L' := [(5, _), (4, _), (3, _), (0, _), (1, _), (2, _)]) F d_D_joinPairs_32 (by decide) rfl ?_
      refine qv_aload_n F d_D_joinPairs_34 3 rfl ?_
      refine g_D_15 F d_D_joinPairs_35 ?_
      refine qv_iload_n F d_D_joinPairs_38 2 rfl ?_
      refine qv_iload F d_D_joinPairs_39 1 rfl ?_
      refine qv_iload F d_D_joinPairs_41 0 rfl ?_
      refine qv_icmpne F d_D_joinPairs_43 rfl (show G (2 * i) < 2 ^ 31 by omega) (show G (2 * i + 1) < 2 ^ 31 by omega) (fun hb => ?_) (fun hb => ?_)
      ·
        have hne : σ 25 (2 * i) ≠ σ 25 (2 * i + 1) := by rw [← g1, ← g2]; exact hb
        have hZ : ∀ x, x < m → Z x < 2 ^ 31 ∧ O x < 2 ^ 31 := fun x hx => by
          obtain ⟨j, hj, q1, q2⟩ := hI.2.2.1 x hx
          have r1 := hF (2 * j) (by omega)
          have r2 := hF (2 * j + 1) (by omega)
          omega
        refine qv_iload_n F d_D_joinPairs_51 5 rfl ?_
        refine qv_aload_n F d_D_joinPairs_52 3 rfl ?_
        refine qv_iload F d_D_joinPairs_53 1 rfl ?_
        refine qv_iload F d_D_joinPairs_55 0 rfl ?_
        refine i_D_47p F (c_D_findNode l X (jt_ σ Z O m G) (G (2 * i)) (G (2 * i + 1)) (show m < 512 by omega) (by omega) (by omega) (fun x hx => (hZ x hx).1) (fun x hx => (hZ x hx).2)) (by decide) (Nat.le_of_ble_eq_true rfl) d_D_joinPairs_57 (fun r τ hp => ?_)
        rcases hp with ⟨x, hx, e1, e2, rfl, rfl⟩ | ⟨hno, rfl, rfl⟩
        · refine qv_stk (st' := .int (nI x) :: _) rfl ?_
          have hx : x < m := hx
          have e1 : Z x = G (2 * i) := e1
          have e2 : O x = G (2 * i + 1) := e2
          refine qv_iadd F d_D_joinPairs_60 ?_
          refine sv_25 F (show i < 1024 by omega) d_D_joinPairs_61 ?_
          refine qv_st (jt_G σ Z O m G i (b + x)) ?_
          refine qv_sub (L' := [(3, _), (0, _), (1, _), (2, _)]) [2, 3, 4, 5] rfl ?_
          refine qv_iinc (L' := [(3, _), (0, _), (1, _), (2, _)]) F _ d_D_joinPairs_62 0 rfl (ii_1 _) (by decide) rfl ?_
          refine qv_goto F d_D_joinPairs_65 rfl ?_
          exact ih (Z, O, m, va_up G i (b + x)) (jn_b hI hne hx (e1.trans g1) (e2.trans g2))
        · refine qv_stk (st' := .int (nI m) :: _) rfl ?_
          have hno : ∀ x, x < m → ¬ (Z x = G (2 * i) ∧ O x = G (2 * i + 1)) := hno
          refine qv_st (jt_N σ Z O m G (G (2 * i)) (G (2 * i + 1))) ?_
          refine qv_iadd F d_D_joinPairs_60 ?_
          refine sv_25 F (show i < 1024 by omega) d_D_joinPairs_61 ?_
          refine qv_st (jt_G σ _ _ (m + 1) G i (b + m)) ?_
          refine qv_sub (L' := [(3, _), (0, _), (1, _), (2, _)]) [2, 3, 4, 5] rfl ?_
          refine qv_iinc (L' := [(3, _), (0, _), (1, _), (2, _)]) F _ d_D_joinPairs_62 0 rfl (ii_1 _) (by decide) rfl ?_
          refine qv_goto F d_D_joinPairs_65 rfl ?_
          refine ih (va_up Z m (G (2 * i)), va_up O m (G (2 * i + 1)), m + 1, va_up G i (b + m)) ?_
          show jn_ (σ 25) b (i + 1) (va_up Z m (G (2 * i))) (va_up O m (G (2 * i + 1))) (m + 1) (va_up G i (b + m))
          rw [g1, g2] at hno ⊢
          exact jn_c hI hne hno
      ·
        have he : σ 25 (2 * i) = σ 25 (2 * i + 1) := by rw [← g1, ← g2]; exact hb
        refine qv_iload F d_D_joinPairs_46 1 rfl ?_
        refine qv_goto F d_D_joinPairs_48 rfl ?_
        refine sv_25 F (show i < 1024 by omega) d_D_joinPairs_61 ?_
        refine qv_st (jt_G σ Z O m G i (G (2 * i))) ?_
        refine qv_sub (L' := [(3, _), (0, _), (1, _), (2, _)]) [2, 3, 4, 5] rfl ?_
        refine qv_iinc (L' := [(3, _), (0, _), (1, _), (2, _)]) F _ d_D_joinPairs_62 0 rfl (ii_1 _) (by decide) rfl ?_
        refine qv_goto F d_D_joinPairs_65 rfl ?_
        refine ih (Z, O, m, va_up G i (G (2 * i))) ?_
        show jn_ (σ 25) b (i + 1) Z O m (va_up G i (G (2 * i)))
        rw [g1]
        exact jn_a hI he
theorem nm_0 {f : Nat → Nat} (n : Nat) (hf : ∀ k, k < n → f k < 2) : nm_ f (2 ^ 0) n (2 + 0) f := by
  refine ⟨fun i j hi hj => ?_, fun i hi => hf i hi⟩
  have e : (2 : Nat) ^ 0 = 1 := rfl
  rw [e]
  constructor
  · intro h k hk
    obtain rfl : k = 0 := by omega
    rw [Nat.one_mul, Nat.one_mul]
    exact h
  · intro h
    have := h 0 (by decide)
    rw [Nat.one_mul, Nat.one_mul] at this
    exact this
set_option maxRecDepth 100000 in
set_option maxHeartbeats 4000000 in
theorem c_D_countNodes (l : Launch) (X : wX) (σ : sg) (q : Nat) (hq : q ≤ 10) (hr0 : σ 4 2 = 2 ^ q) (hf : ∀ k, k < 2 ^ q → σ 25 k < 2) : mt_ l X y_D_countNodes w_D_countNodes 2 [.ref (adr X 4)] σ (fun r τ => ∃ (Z O G : Nat → Nat) (m : Nat), r = some (.int (nI (lv2_ (σ 25) q q))) ∧ τ = jt_ σ Z O m G) := by
  refine mt_of (own := R_D) rfl pl_D (Nat.le_of_ble_eq_true rfl) ?_
  intro zp ze zs zm za zb zt zc F hr hlk
  refine qv_sub (L' := [(0, _)]) [0] rfl ?_
  have p10 : 2 ^ q ≤ 2 ^ 10 := Nat.pow_le_pow_right (by decide) hq
  refine qv_iconst F (nI 0) d_D_countNodes_0 ic_0 ?_
  refine qv_istore_n (L' := [(1, _), (0, _)]) F d_D_countNodes_1 (by decide) rfl ?_
  refine qv_aload_n F d_D_countNodes_2 1 rfl ?_
  refine g_D_18 F d_D_countNodes_3 ?_
  refine qv_iconst F (nI 2) d_D_countNodes_6 ic_2 ?_
  refine qv_idiv F d_D_countNodes_7 (show σ 4 2 < 2 ^ 31 by rw [hr0]; omega) (by decide) (by decide) ?_
  refine qv_istore_n (L' := [(2, _), (1, _), (0, _)]) F d_D_countNodes_8 (by decide) rfl ?_
  rw [hr0]
  have lp := lu_up (fun t (a : (Nat → Nat) × (Nat → Nat) × Nat × (Nat → Nat)) => vv_ zp l ze (rr_ 2) zs zm za zb zt zc (MQ zb (mq_ X (fun r τ => ∃ (Z O G : Nat → Nat) (m : Nat), r = some (.int (nI (lv2_ (σ 25) q q))) ∧ τ = jt_ σ Z O m G)) za zs 0 0 (aw_ X)) X 3 [(2, .int (nI (2 ^ (q - t) / 2))), (1, .int (nI (lv2_ (σ 25) q t))), (0, .ref (adr X 4))] (jt_ σ a.1 a.2.1 a.2.2.1 a.2.2.2) 9 []) (fun t a => nm_ (σ 25) (2 ^ t) (2 ^ (q - t)) (2 + lv2_ (σ 25) q t) a.2.2.2) q ?_ ?_ 0 (σ 26, σ 27, σ 4 5, σ 25) (Nat.zero_le _) (nm_0 _ hf)
  · exact qv_st (jt_id σ) lp
  · intro a hI
    refine qv_iload_n F d_D_countNodes_9 0 rfl ?_
    refine qv_ifle F d_D_countNodes_10 rfl (by rw [Nat.sub_self]; decide) (fun hb => ?_) (fun hb => ?_)
    ·
      refine qv_iload_n F d_D_countNodes_35 1 rfl ?_
      exact qv_iret F hr hlk d_D_countNodes_36 ⟨a.1, a.2.1, a.2.2.2, a.2.2.1, rfl, rfl⟩
    ·
      rw [Nat.sub_self] at hb
      exact absurd hb (by decide)
  · intro t a ht hI ih
    obtain ⟨Z, O, m, G⟩ := a
    have hI : nm_ (σ 25) (2 ^ t) (2 ^ (q - t)) (2 + lv2_ (σ 25) q t) G := hI
    have hl := lv2_le (σ 25) q t (by omega)
    have hd := p2_dbl ht
    have hpos : 0 < 2 ^ (q - 1 - t) := Nat.two_pow_pos _
    have h512 : 2 * 2 ^ (q - 1 - t) ≤ 2 ^ 10 := by rw [hd]; exact Nat.pow_le_pow_right (by decide) (by omega)
    rw [← hd] at hI
    show vv_ zp l ze (rr_ 2) zs zm za zb zt zc (MQ zb (mq_ X (fun r τ => ∃ (Z O G : Nat → Nat) (m : Nat), r = some (.int (nI (lv2_ (σ 25) q q))) ∧ τ = jt_ σ Z O m G)) za zs 0 0 (aw_ X)) X 3 [(2, .int (nI (2 ^ (q - t) / 2))), (1, .int (nI (lv2_ (σ 25) q t))), (0, .ref (adr X 4))] (jt_ σ Z O m G) 9 []
    rw [p2_half ht]
    refine qv_iload_n F d_D_countNodes_9 0 rfl ?_
    refine qv_ifle F d_D_countNodes_10 rfl (by omega) (fun hb => ?_) (fun hb => ?_)
    ·
      omega
    ·
      refine qv_aload_n F d_D_countNodes_13 2 rfl ?_
      refine qv_iload_n F d_D_countNodes_14 0 rfl ?_
      refine qv_iconst F (nI 2) d_D_countNodes_15 ic_2 ?_
      refine qv_iload_n F d_D_countNodes_16 1 rfl ?_
      refine qv_iadd F d_D_countNodes_17 ?_
      refine i_D_43p F (c_D_joinPairs l X (jt_ σ Z O m G) (2 ^ (q - 1 - t)) (2 + lv2_ (σ 25) q t) (by omega) (by omega) (fun k hk => hI.2 k hk)) (by decide) (Nat.le_of_ble_eq_true rfl) d_D_countNodes_18 (fun r τ hp => ?_)
      obtain ⟨Z', O', G', m', rfl, rfl, hj⟩ := hp
      refine qv_stk (st' := []) rfl ?_
      refine qv_st (jt_jt σ Z O m G Z' O' m' G') ?_
      obtain ⟨hn, hm⟩ := jn_end hI hj
      have e1 : lv2_ (σ 25) q (t + 1) = lv2_ (σ 25) q t + m' := by rw [hm]; rfl
      have e2 : q - (t + 1) = q - 1 - t := by omega
      have ih := ih (Z', O', m', G')
      rw [e1, e2, Nat.pow_succ, Nat.mul_comm (2 ^ t) 2, ← Nat.add_assoc] at ih
      refine qv_iload_n F d_D_countNodes_21 1 rfl ?_
      refine qv_aload_n F d_D_countNodes_22 2 rfl ?_
      refine g_D_28 F d_D_countNodes_23 ?_
      refine qv_iadd F d_D_countNodes_26 ?_
      refine qv_istore_n (L' := [(1, _), (2, _), (0, _)]) F d_D_countNodes_27 (by decide) rfl ?_
      refine qv_iload_n F d_D_countNodes_28 1 rfl ?_
      refine qv_iconst F (nI 2) d_D_countNodes_29 ic_2 ?_
      refine qv_idiv F d_D_countNodes_30 (by omega) (by decide) (by decide) ?_
      refine qv_istore_n (L' := [(2, _), (1, _), (0, _)]) F d_D_countNodes_31 (by decide) rfl ?_
      refine qv_goto F d_D_countNodes_32 rfl ?_
      refine qv_sub (L' := [(2, _), (1, _), (0, _)]) [0, 1, 2] rfl ?_
      exact ih hn
end
section
/-! the class's face: told, asked -/
set_option maxRecDepth 100000 in
set_option maxHeartbeats 4000000 in
theorem c_P_kind (l : Launch) (X : wX) (σ : sg) (x y : Int32) : mt_ l X y_P_kind w_P_kind 1 [.ref (adr X 0), .int x, .int y] σ (ei_ (nI (wi_ x 8 && wi_ y 4).toNat) (if (wi_ x 8 && wi_ y 4) = true then us σ 5 (tn_ x) (tn_ y) else σ)) := by
  refine mt_of (own := R_P) rfl pl_P (Nat.le_of_ble_eq_true rfl) ?_
  intro zp ze zs zm za zb zt zc F hr hlk
  refine qv_sub (L' := [(0, _), (1, _), (2, _)]) [0, 1, 2] rfl ?_
  refine qv_iload_n F d_P_kind_0 1 rfl ?_
  refine qv_bipush F (nI 8) d_P_kind_1 bic_8 ?_
  refine i_P_41i F (c_P_isWithin l X σ x 8 (by decide)) (by decide) (Nat.le_of_ble_eq_true rfl) d_P_kind_3 ?_
  refine qv_ifeqB F d_P_kind_6 rfl (fun hb => ?_) (fun hb => ?_)
  ·
    refine qv_iconst F (nI 0) d_P_kind_17 ic_0 ?_
    exact qv_zret F hr hlk (by first | exact Or.inl rfl | exact Or.inr rfl | exact bz_01 _) d_P_kind_18 (ei_of (by rw [hb]; rfl) (by rw [hb]; rfl))
  ·
    have hx := hb
    obtain ⟨j, hj, rfl⟩ := wi_t (by decide) hb
    refine qv_iload_n F d_P_kind_9 2 rfl ?_
    refine qv_iconst F (nI 4) d_P_kind_10 ic_4 ?_
    refine i_P_41i F (c_P_isWithin l X σ y 4 (by decide)) (by decide) (Nat.le_of_ble_eq_true rfl) d_P_kind_11 ?_
    refine qv_ifneB F d_P_kind_14 rfl (fun hb => ?_) (fun hb => ?_)
    ·
      have hy := hb
      obtain ⟨k, hk, rfl⟩ := wi_t (by decide) hb
      refine qv_aload_n F d_P_kind_19 0 rfl ?_
      refine g_P_12 F d_P_kind_20 ?_
      refine g_P_45 F d_P_kind_23 ?_
      refine qv_iload_n F d_P_kind_26 1 rfl ?_
      refine qv_iload_n F d_P_kind_27 2 rfl ?_
      refine sv_5 F (by omega) d_P_kind_28 ?_
      refine qv_iconst F (nI 1) d_P_kind_29 ic_1 ?_
      exact qv_zret F hr hlk (by first | exact Or.inl rfl | exact Or.inr rfl | exact bz_01 _) d_P_kind_30 (ei_of (by rw [hx, hy]; rfl) (by rw [hx, hy, tn_nI (by omega), tn_nI (by omega)]; rfl))
    ·
      refine qv_iconst F (nI 0) d_P_kind_17 ic_0 ?_
      exact qv_zret F hr hlk (by first | exact Or.inl rfl | exact Or.inr rfl | exact bz_01 _) d_P_kind_18 (ei_of (by rw [hx, hb]; rfl) (by rw [hx, hb]; rfl))
set_option maxRecDepth 100000 in
set_option maxHeartbeats 4000000 in
theorem c_P_accept (l : Launch) (X : wX) (σ : sg) (x y : Int32) : mt_ l X y_P_accept w_P_accept 1 [.ref (adr X 0), .int x, .int y] σ (ei_ (nI (wi_ x 16 && wi_ y 16).toNat) (if (wi_ x 16 && wi_ y 16) = true then us σ 6 (tn_ x) (tn_ y) else σ)) := by
  refine mt_of (own := R_P) rfl pl_P (Nat.le_of_ble_eq_true rfl) ?_
  intro zp ze zs zm za zb zt zc F hr hlk
  refine qv_sub (L' := [(0, _), (1, _), (2, _)]) [0, 1, 2] rfl ?_
  refine qv_iload_n F d_P_accept_0 1 rfl ?_
  refine qv_bipush F (nI 16) d_P_accept_1 bic_16 ?_
  refine i_P_41i F (c_P_isWithin l X σ x 16 (by decide)) (by decide) (Nat.le_of_ble_eq_true rfl) d_P_accept_3 ?_
  refine qv_ifeqB F d_P_accept_6 rfl (fun hb => ?_) (fun hb => ?_)
  ·
    refine qv_iconst F (nI 0) d_P_accept_18 ic_0 ?_
    exact qv_zret F hr hlk (by first | exact Or.inl rfl | exact Or.inr rfl | exact bz_01 _) d_P_accept_19 (ei_of (by rw [hb]; rfl) (by rw [hb]; rfl))
  ·
    have hx := hb
    obtain ⟨j, hj, rfl⟩ := wi_t (by decide) hb
    refine qv_iload_n F d_P_accept_9 2 rfl ?_
    refine qv_bipush F (nI 16) d_P_accept_10 bic_16 ?_
    refine i_P_41i F (c_P_isWithin l X σ y 16 (by decide)) (by decide) (Nat.le_of_ble_eq_true rfl) d_P_accept_12 ?_
    refine qv_ifneB F d_P_accept_15 rfl (fun hb => ?_) (fun hb => ?_)
    ·
      have hy := hb
      obtain ⟨k, hk, rfl⟩ := wi_t (by decide) hb
      refine qv_aload_n F d_P_accept_20 0 rfl ?_
      refine g_P_12 F d_P_accept_21 ?_
      refine g_P_49 F d_P_accept_24 ?_
      refine qv_iload_n F d_P_accept_27 1 rfl ?_
      refine qv_iload_n F d_P_accept_28 2 rfl ?_
      refine sv_6 F (by omega) d_P_accept_29 ?_
      refine qv_iconst F (nI 1) d_P_accept_30 ic_1 ?_
      exact qv_zret F hr hlk (by first | exact Or.inl rfl | exact Or.inr rfl | exact bz_01 _) d_P_accept_31 (ei_of (by rw [hx, hy]; rfl) (by rw [hx, hy, tn_nI (by omega), tn_nI (by omega)]; rfl))
    ·
      refine qv_iconst F (nI 0) d_P_accept_18 ic_0 ?_
      exact qv_zret F hr hlk (by first | exact Or.inl rfl | exact Or.inr rfl | exact bz_01 _) d_P_accept_19 (ei_of (by rw [hx, hb]; rfl) (by rw [hx, hb]; rfl))
/-- the answer of a new statement, or of a refused one -/
def an_ (b : Bool) (n : Nat) : Int32 := if b = true then (if n < 40 then nI (n + 1) else -2) else -1
def sn2_ (b : Bool) (σ : sg) (a v w f : Nat) : sg := if b = true then (if σ 1 2 < 40 then as_ σ a v w f else σ) else σ
set_option maxRecDepth 100000 in
set_option maxHeartbeats 4000000 in
theorem c_P_make (l : Launch) (X : wX) (σ : sg) (x y : Int32) (hs : σ 1 2 ≤ 40) : mt_ l X y_P_make w_P_make 1 [.ref (adr X 0), .int x, .int y] σ (ei_ (an_ (wi_ x 16 && wi_ y 8) (σ 1 2)) (sn2_ (wi_ x 16 && wi_ y 8) σ 0 (tn_ x) (tn_ y) 0)) := by
  refine mt_of (own := R_P) rfl pl_P (Nat.le_of_ble_eq_true rfl) ?_
  intro zp ze zs zm za zb zt zc F hr hlk
  refine qv_sub (L' := [(0, _), (1, _), (2, _)]) [0, 1, 2] rfl ?_
  refine qv_iload_n F d_P_make_0 1 rfl ?_
  refine qv_bipush F (nI 16) d_P_make_1 bic_16 ?_
  refine i_P_41i F (c_P_isWithin l X σ x 16 (by decide)) (by decide) (Nat.le_of_ble_eq_true rfl) d_P_make_3 ?_
  refine qv_ifeqB F d_P_make_6 rfl (fun hb => ?_) (fun hb => ?_)
  ·
    refine qv_iconst F (-1) d_P_make_18 ic_m1 ?_
    exact qv_iret F hr hlk d_P_make_19 (ei_of (by rw [hb]; rfl) (by rw [hb]; rfl))
  ·
    have hx := hb
    obtain ⟨j, hj, rfl⟩ := wi_t (by decide) hb
    refine qv_iload_n F d_P_make_9 2 rfl ?_
    refine qv_bipush F (nI 8) d_P_make_10 bic_8 ?_
    refine i_P_41i F (c_P_isWithin l X σ y 8 (by decide)) (by decide) (Nat.le_of_ble_eq_true rfl) d_P_make_12 ?_
    refine qv_ifneB F d_P_make_15 rfl (fun hb => ?_) (fun hb => ?_)
    ·
      have hy := hb
      obtain ⟨k, hk, rfl⟩ := wi_t (by decide) hb
      refine qv_aload_n F d_P_make_20 0 rfl ?_
      refine g_P_12 F d_P_make_21 ?_
      refine qv_iconst F (nI 0) d_P_make_24 ic_0 ?_
      refine qv_iload_n F d_P_make_25 1 rfl ?_
      refine qv_iload_n F d_P_make_26 2 rfl ?_
      refine qv_iconst F (nI 0) d_P_make_27 ic_0 ?_
      refine i_P_52i F (c_G_addStatement l X σ 0 j k 0 hs) (by decide) (Nat.le_of_ble_eq_true rfl) d_P_make_28 ?_
      exact qv_iret F hr hlk d_P_make_31 (ei_of (by rw [hx, hy]; rfl) (by rw [hx, hy, tn_nI (by omega), tn_nI (by omega)]; rfl))
    ·
      refine qv_iconst F (-1) d_P_make_18 ic_m1 ?_
      exact qv_iret F hr hlk d_P_make_19 (ei_of (by rw [hx, hb]; rfl) (by rw [hx, hb]; rfl))
def om_ (x y : Int32) : Bool := wi_ y 16 && (wi_ x 16 && decide (tn_ x / 4 = tn_ y / 4))
theorem om_t {x y : Int32} (h : om_ x y = true) : ∃ j k : Nat, j < 16 ∧ k < 16 ∧ x = nI j ∧ y = nI k := by
  unfold om_ at h
  rw [Bool.and_eq_true, Bool.and_eq_true] at h
  obtain ⟨k, hk, e1⟩ := wi_t (by decide) h.1
  obtain ⟨j, hj, e2⟩ := wi_t (by decide) h.2.1
  exact ⟨j, k, hj, hk, e2, e1⟩
set_option maxRecDepth 100000 in
set_option maxHeartbeats 4000000 in
theorem c_P_copy (l : Launch) (X : wX) (σ : sg) (x y : Int32) (hs : σ 1 2 ≤ 40) : mt_ l X y_P_copy w_P_copy 3 [.ref (adr X 0), .int x, .int y] σ (ei_ (an_ (om_ x y) (σ 1 2)) (sn2_ (om_ x y) σ 1 (tn_ x) (tn_ y) 0)) := by
  refine mt_of (own := R_P) rfl pl_P (Nat.le_of_ble_eq_true rfl) ?_
  intro zp ze zs zm za zb zt zc F hr hlk
  refine qv_sub (L' := [(0, _), (1, _), (2, _)]) [0, 1, 2] rfl ?_
  refine qv_iload_n F d_P_copy_0 1 rfl ?_
  refine qv_iload_n F d_P_copy_1 2 rfl ?_
  refine i_P_56i F (c_P_areOfOneMethod l X σ x y) (by decide) (Nat.le_of_ble_eq_true rfl) d_P_copy_2 ?_
  refine qv_ifneB F d_P_copy_5 rfl (fun hb => ?_) (fun hb => ?_)
  ·
    have hx : om_ x y = true := hb
    obtain ⟨j, k, hj, hk, rfl, rfl⟩ := om_t hx
    refine qv_aload_n F d_P_copy_10 0 rfl ?_
    refine g_P_12 F d_P_copy_11 ?_
    refine qv_iconst F (nI 1) d_P_copy_14 ic_1 ?_
    refine qv_iload_n F d_P_copy_15 1 rfl ?_
    refine qv_iload_n F d_P_copy_16 2 rfl ?_
    refine qv_iconst F (nI 0) d_P_copy_17 ic_0 ?_
    refine i_P_52i F (c_G_addStatement l X σ 1 j k 0 hs) (by decide) (Nat.le_of_ble_eq_true rfl) d_P_copy_18 ?_
    exact qv_iret F hr hlk d_P_copy_21 (ei_of (by rw [hx]; rfl) (by rw [hx, tn_nI (by omega), tn_nI (by omega)]; rfl))
  ·
    have hx : om_ x y = false := hb
    refine qv_iconst F (-1) d_P_copy_8 ic_m1 ?_
    exact qv_iret F hr hlk d_P_copy_9 (ei_of (by rw [hx]; rfl) (by rw [hx]; rfl))
set_option maxRecDepth 100000 in
set_option maxHeartbeats 4000000 in
theorem c_P_store (l : Launch) (X : wX) (σ : sg) (x f y : Int32) (hs : σ 1 2 ≤ 40) : mt_ l X y_P_store w_P_store 3 [.ref (adr X 0), .int x, .int f, .int y] σ (ei_ (an_ (om_ x y && wi_ f 2) (σ 1 2)) (sn2_ (om_ x y && wi_ f 2) σ 2 (tn_ x) (tn_ y) (tn_ f))) := by
  refine mt_of (own := R_P) rfl pl_P (Nat.le_of_ble_eq_true rfl) ?_
  intro zp ze zs zm za zb zt zc F hr hlk
  refine qv_sub (L' := [(0, _), (1, _), (2, _), (3, _)]) [0, 1, 2, 3] rfl ?_
  refine qv_iload_n F d_P_store_0 1 rfl ?_
  refine qv_iload_n F d_P_store_1 3 rfl ?_
  refine i_P_56i F (c_P_areOfOneMethod l X σ x y) (by decide) (Nat.le_of_ble_eq_true rfl) d_P_store_2 ?_
  refine qv_ifeqB F d_P_store_5 rfl (fun hb => ?_) (fun hb => ?_)
  ·
    have hx : om_ x y = false := hb
    refine qv_iconst F (-1) d_P_store_16 ic_m1 ?_
    exact qv_iret F hr hlk d_P_store_17 (ei_of (by rw [hx]; rfl) (by rw [hx]; rfl))
  ·
    have hx : om_ x y = true := hb
    obtain ⟨j, k, hj, hk, rfl, rfl⟩ := om_t hx
    refine qv_iload_n F d_P_store_8 2 rfl ?_
    refine qv_iconst F (nI 2) d_P_store_9 ic_2 ?_
    refine i_P_41i F (c_P_isWithin l X σ f 2 (by decide)) (by decide) (Nat.le_of_ble_eq_true rfl) d_P_store_10 ?_
    refine qv_ifneB F d_P_store_13 rfl (fun hb => ?_) (fun hb => ?_)
    ·
      have hf := hb
      obtain ⟨i, hi, rfl⟩ := wi_t (by decide) hb
      refine qv_aload_n F d_P_store_18 0 rfl ?_
      refine g_P_12 F d_P_store_19 ?_
      refine qv_iconst F (nI 2) d_P_store_22 ic_2 ?_
      refine qv_iload_n F d_P_store_23 1 rfl ?_
      refine qv_iload_n F d_P_store_24 3 rfl ?_
      refine qv_iload_n F d_P_store_25 2 rfl ?_
      refine i_P_52i F (c_G_addStatement l X σ 2 j k i hs) (by decide) (Nat.le_of_ble_eq_true rfl) d_P_store_26 ?_
      exact qv_iret F hr hlk d_P_store_29 (ei_of (by rw [hx, hf]; rfl) (by rw [hx, hf, tn_nI (by omega), tn_nI (by omega), tn_nI (by omega)]; rfl))
    ·
      refine qv_iconst F (-1) d_P_store_16 ic_m1 ?_
      exact qv_iret F hr hlk d_P_store_17 (ei_of (by rw [hx, hb]; rfl) (by rw [hx, hb]; rfl))
set_option maxRecDepth 100000 in
set_option maxHeartbeats 4000000 in
theorem c_P_load (l : Launch) (X : wX) (σ : sg) (x y f : Int32) (hs : σ 1 2 ≤ 40) : mt_ l X y_P_load w_P_load 3 [.ref (adr X 0), .int x, .int y, .int f] σ (ei_ (an_ (om_ x y && wi_ f 2) (σ 1 2)) (sn2_ (om_ x y && wi_ f 2) σ 3 (tn_ x) (tn_ y) (tn_ f))) := by
  refine mt_of (own := R_P) rfl pl_P (Nat.le_of_ble_eq_true rfl) ?_
  intro zp ze zs zm za zb zt zc F hr hlk
  refine qv_sub (L' := [(0, _), (1, _), (2, _), (3, _)]) [0, 1, 2, 3] rfl ?_
  refine qv_iload_n F d_P_load_0 1 rfl ?_
  refine qv_iload_n F d_P_load_1 2 rfl ?_
  refine i_P_56i F (c_P_areOfOneMethod l X σ x y) (by decide) (Nat.le_of_ble_eq_true rfl) d_P_load_2 ?_
  refine qv_ifeqB F d_P_load_5 rfl (fun hb => ?_) (fun hb => ?_)
  ·
    have hx : om_ x y = false := hb
    refine qv_iconst F (-1) d_P_load_16 ic_m1 ?_
    exact qv_iret F hr hlk d_P_load_17 (ei_of (by rw [hx]; rfl) (by rw [hx]; rfl))
  ·
    have hx : om_ x y = true := hb
    obtain ⟨j, k, hj, hk, rfl, rfl⟩ := om_t hx
    refine qv_iload_n F d_P_load_8 3 rfl ?_
    refine qv_iconst F (nI 2) d_P_load_9 ic_2 ?_
    refine i_P_41i F (c_P_isWithin l X σ f 2 (by decide)) (by decide) (Nat.le_of_ble_eq_true rfl) d_P_load_10 ?_
    refine qv_ifneB F d_P_load_13 rfl (fun hb => ?_) (fun hb => ?_)
    ·
      have hf := hb
      obtain ⟨i, hi, rfl⟩ := wi_t (by decide) hb
      refine qv_aload_n F d_P_load_18 0 rfl ?_
      refine g_P_12 F d_P_load_19 ?_
      refine qv_iconst F (nI 3) d_P_load_22 ic_3 ?_
      refine qv_iload_n F d_P_load_23 1 rfl ?_
      refine qv_iload_n F d_P_load_24 2 rfl ?_
      refine qv_iload_n F d_P_load_25 3 rfl ?_
      refine i_P_52i F (c_G_addStatement l X σ 3 j k i hs) (by decide) (Nat.le_of_ble_eq_true rfl) d_P_load_26 ?_
      exact qv_iret F hr hlk d_P_load_29 (ei_of (by rw [hx, hf]; rfl) (by rw [hx, hf, tn_nI (by omega), tn_nI (by omega), tn_nI (by omega)]; rfl))
    ·
      refine qv_iconst F (-1) d_P_load_16 ic_m1 ?_
      exact qv_iret F hr hlk d_P_load_17 (ei_of (by rw [hx, hb]; rfl) (by rw [hx, hb]; rfl))
def cn_ (b : Bool) (n : Nat) : Int32 := if b = true then (if n < 8 then nI n else -2) else -1
def cs2_ (b : Bool) (σ : sg) (v w : Nat) : sg := if b = true then (if σ 1 7 < 8 then ac_ σ v w else σ) else σ
set_option maxRecDepth 100000 in
set_option maxHeartbeats 4000000 in
theorem c_P_call (l : Launch) (X : wX) (σ : sg) (x y : Int32) (hs : σ 1 7 ≤ 8) : mt_ l X y_P_call w_P_call 1 [.ref (adr X 0), .int x, .int y] σ (ei_ (cn_ (wi_ x 4 && wi_ y 4) (σ 1 7)) (cs2_ (wi_ x 4 && wi_ y 4) σ (tn_ x) (tn_ y))) := by
  refine mt_of (own := R_P) rfl pl_P (Nat.le_of_ble_eq_true rfl) ?_
  intro zp ze zs zm za zb zt zc F hr hlk
  refine qv_sub (L' := [(0, _), (1, _), (2, _)]) [0, 1, 2] rfl ?_
  refine qv_iload_n F d_P_call_0 1 rfl ?_
  refine qv_iconst F (nI 4) d_P_call_1 ic_4 ?_
  refine i_P_41i F (c_P_isWithin l X σ x 4 (by decide)) (by decide) (Nat.le_of_ble_eq_true rfl) d_P_call_2 ?_
  refine qv_ifeqB F d_P_call_5 rfl (fun hb => ?_) (fun hb => ?_)
  ·
    refine qv_iconst F (-1) d_P_call_16 ic_m1 ?_
    exact qv_iret F hr hlk d_P_call_17 (ei_of (by rw [hb]; rfl) (by rw [hb]; rfl))
  ·
    have hx := hb
    obtain ⟨j, hj, rfl⟩ := wi_t (by decide) hb
    refine qv_iload_n F d_P_call_8 2 rfl ?_
    refine qv_iconst F (nI 4) d_P_call_9 ic_4 ?_
    refine i_P_41i F (c_P_isWithin l X σ y 4 (by decide)) (by decide) (Nat.le_of_ble_eq_true rfl) d_P_call_10 ?_
    refine qv_ifneB F d_P_call_13 rfl (fun hb => ?_) (fun hb => ?_)
    ·
      have hy := hb
      obtain ⟨k, hk, rfl⟩ := wi_t (by decide) hb
      refine qv_aload_n F d_P_call_18 0 rfl ?_
      refine g_P_12 F d_P_call_19 ?_
      refine qv_iload_n F d_P_call_22 1 rfl ?_
      refine qv_iload_n F d_P_call_23 2 rfl ?_
      refine i_P_59i F (c_G_addCall l X σ j k hs) (by decide) (Nat.le_of_ble_eq_true rfl) d_P_call_24 ?_
      exact qv_iret F hr hlk d_P_call_27 (ei_of (by rw [hx, hy]; rfl) (by rw [hx, hy, tn_nI (by omega), tn_nI (by omega)]; rfl))
    ·
      refine qv_iconst F (-1) d_P_call_16 ic_m1 ?_
      exact qv_iret F hr hlk d_P_call_17 (ei_of (by rw [hx, hb]; rfl) (by rw [hx, hb]; rfl))
set_option maxRecDepth 100000 in
set_option maxHeartbeats 4000000 in
theorem c_P_order (l : Launch) (X : wX) (σ : sg) (x : Int32) : mt_ l X y_P_order w_P_order 1 [.ref (adr X 0), .int x] σ (ei_ (nI (wi_ x 6).toNat) (if wi_ x 6 = true then us σ 0 4 (tn_ x) else σ)) := by
  refine mt_of (own := R_P) rfl pl_P (Nat.le_of_ble_eq_true rfl) ?_
  intro zp ze zs zm za zb zt zc F hr hlk
  refine qv_sub (L' := [(0, _), (1, _)]) [0, 1] rfl ?_
  refine qv_iload_n F d_P_order_0 1 rfl ?_
  refine qv_bipush F (nI 6) d_P_order_1 bic_6 ?_
  refine i_P_41i F (c_P_isWithin l X σ x 6 (by decide)) (by decide) (Nat.le_of_ble_eq_true rfl) d_P_order_3 ?_
  refine qv_ifneB F d_P_order_6 rfl (fun hb => ?_) (fun hb => ?_)
  ·
    have hx := hb
    obtain ⟨j, hj, rfl⟩ := wi_t (by decide) hb
    refine qv_aload_n F d_P_order_11 0 rfl ?_
    refine qv_iload_n F d_P_order_12 1 rfl ?_
    refine p_P_37 F d_P_order_13 ?_
    refine qv_iconst F (nI 1) d_P_order_16 ic_1 ?_
    exact qv_zret F hr hlk (by first | exact Or.inl rfl | exact Or.inr rfl | exact bz_01 _) d_P_order_17 (ei_of (by rw [hx]; rfl) (by rw [hx, tn_nI (by omega)]; rfl))
  ·
    refine qv_iconst F (nI 0) d_P_order_9 ic_0 ?_
    exact qv_zret F hr hlk (by first | exact Or.inl rfl | exact Or.inr rfl | exact bz_01 _) d_P_order_10 (ei_of (by rw [hb]; rfl) (by rw [hb]; rfl))
set_option maxRecDepth 100000 in
set_option maxHeartbeats 4000000 in
theorem c_P_contexts (l : Launch) (X : wX) (σ : sg) (x : Int32) : mt_ l X y_P_contexts w_P_contexts 1 [.ref (adr X 0), .int x] σ (ei_ (if wi_ x 4 = true then nI (σ 17 (tn_ x)) else -1) σ) := by
  refine mt_of (own := R_P) rfl pl_P (Nat.le_of_ble_eq_true rfl) ?_
  intro zp ze zs zm za zb zt zc F hr hlk
  refine qv_sub (L' := [(0, _), (1, _)]) [0, 1] rfl ?_
  refine qv_iload_n F d_P_contexts_0 1 rfl ?_
  refine qv_iconst F (nI 4) d_P_contexts_1 ic_4 ?_
  refine i_P_41i F (c_P_isWithin l X σ x 4 (by decide)) (by decide) (Nat.le_of_ble_eq_true rfl) d_P_contexts_2 ?_
  refine qv_ifneB F d_P_contexts_5 rfl (fun hb => ?_) (fun hb => ?_)
  ·
    have hx := hb
    obtain ⟨j, hj, rfl⟩ := wi_t (by decide) hb
    refine qv_aload_n F d_P_contexts_10 0 rfl ?_
    refine g_P_19 F d_P_contexts_11 ?_
    refine g_P_91 F d_P_contexts_14 ?_
    refine qv_iload_n F d_P_contexts_17 1 rfl ?_
    refine ld_17 F (by omega) d_P_contexts_18 ?_
    exact qv_iret F hr hlk d_P_contexts_19 (ei_of (by rw [hx, tn_nI (by omega)]; rfl) rfl)
  ·
    refine qv_iconst F (-1) d_P_contexts_8 ic_m1 ?_
    exact qv_iret F hr hlk d_P_contexts_9 (ei_of (by rw [hb]; rfl) rfl)
set_option maxRecDepth 100000 in
set_option maxHeartbeats 4000000 in
theorem c_P_holds (l : Launch) (X : wX) (σ : sg) (x y : Int32) : mt_ l X y_P_holds w_P_holds 1 [.ref (adr X 0), .int x, .int y] σ (ei_ (if (wi_ x 8 && wi_ y 2) = true then nI (σ 22 (tn_ x * 2 + tn_ y)) else nI 0) σ) := by
  refine mt_of (own := R_P) rfl pl_P (Nat.le_of_ble_eq_true rfl) ?_
  intro zp ze zs zm za zb zt zc F hr hlk
  refine qv_sub (L' := [(0, _), (1, _), (2, _)]) [0, 1, 2] rfl ?_
  refine qv_iload_n F d_P_holds_0 1 rfl ?_
  refine qv_bipush F (nI 8) d_P_holds_1 bic_8 ?_
  refine i_P_41i F (c_P_isWithin l X σ x 8 (by decide)) (by decide) (Nat.le_of_ble_eq_true rfl) d_P_holds_3 ?_
  refine qv_ifeqB F d_P_holds_6 rfl (fun hb => ?_) (fun hb => ?_)
  ·
    refine qv_iconst F (nI 0) d_P_holds_17 ic_0 ?_
    exact qv_iret F hr hlk d_P_holds_18 (ei_of (by rw [hb]; rfl) rfl)
  ·
    have hx := hb
    obtain ⟨j, hj, rfl⟩ := wi_t (by decide) hb
    refine qv_iload_n F d_P_holds_9 2 rfl ?_
    refine qv_iconst F (nI 2) d_P_holds_10 ic_2 ?_
    refine i_P_41i F (c_P_isWithin l X σ y 2 (by decide)) (by decide) (Nat.le_of_ble_eq_true rfl) d_P_holds_11 ?_
    refine qv_ifneB F d_P_holds_14 rfl (fun hb => ?_) (fun hb => ?_)
    ·
      have hy := hb
      obtain ⟨k, hk, rfl⟩ := wi_t (by decide) hb
      refine qv_aload_n F d_P_holds_19 0 rfl ?_
      refine g_P_26 F d_P_holds_20 ?_
      refine qv_iload_n F d_P_holds_23 1 rfl ?_
      refine qv_iload_n F d_P_holds_24 2 rfl ?_
      refine i_P_88i F (c_T_heldIn l X σ j k (by omega)) (by decide) (Nat.le_of_ble_eq_true rfl) d_P_holds_25 ?_
      exact qv_iret F hr hlk d_P_holds_28 (ei_of (by rw [hx, hy, tn_nI (by omega), tn_nI (by omega)]; rfl) rfl)
    ·
      refine qv_iconst F (nI 0) d_P_holds_17 ic_0 ?_
      exact qv_iret F hr hlk d_P_holds_18 (ei_of (by rw [hx, hb]; rfl) rfl)
def iv_ (mn : Nat → Nat) (x y : Int32) : Bool := wi_ y 16 && wi_ x (mn (tn_ y / 4))
theorem iv_t {mn : Nat → Nat} (hm : ∀ k, mn k ≤ 8) {x y : Int32} (h : iv_ mn x y = true) : ∃ j k : Nat, j < 8 ∧ k < 16 ∧ x = nI j ∧ y = nI k := by
  unfold iv_ at h
  rw [Bool.and_eq_true] at h
  obtain ⟨k, hk, e1⟩ := wi_t (by decide) h.1
  have q := hm (tn_ y / 4)
  obtain ⟨j, hj, e2⟩ := wi_t (by omega) h.2
  exact ⟨j, k, by omega, hk, e2, e1⟩
set_option maxRecDepth 100000 in
set_option maxHeartbeats 4000000 in
theorem c_P_isVariableIn (l : Launch) (X : wX) (σ : sg) (x y : Int32) (hm : ∀ k, σ 17 k ≤ 8) : mt_ l X y_P_isVariableIn w_P_isVariableIn 1 [.ref (adr X 0), .int x, .int y] σ (ei_ (nI (iv_ (σ 17) x y).toNat) σ) := by
  refine mt_of (own := R_P) rfl pl_P (Nat.le_of_ble_eq_true rfl) ?_
  intro zp ze zs zm za zb zt zc F hr hlk
  refine qv_sub (L' := [(0, _), (1, _), (2, _)]) [0, 1, 2] rfl ?_
  refine qv_iload_n F d_P_isVariableIn_0 2 rfl ?_
  refine qv_bipush F (nI 16) d_P_isVariableIn_1 bic_16 ?_
  refine i_P_41i F (c_P_isWithin l X σ y 16 (by decide)) (by decide) (Nat.le_of_ble_eq_true rfl) d_P_isVariableIn_3 ?_
  refine qv_ifeqB F d_P_isVariableIn_6 rfl (fun hb => ?_) (fun hb => ?_)
  ·
    refine qv_iconst F (nI 0) d_P_isVariableIn_32 ic_0 ?_
    exact qv_zret F hr hlk (by first | exact Or.inl rfl | exact Or.inr rfl | exact bz_01 _) d_P_isVariableIn_33 (ei_of (by unfold iv_; rw [hb]; rfl) rfl)
  ·
    have hy := hb
    obtain ⟨k, hk, rfl⟩ := wi_t (by decide) hb
    have q := hm (k / 4)
    refine qv_iload_n F d_P_isVariableIn_9 1 rfl ?_
    refine qv_aload_n F d_P_isVariableIn_10 0 rfl ?_
    refine g_P_19 F d_P_isVariableIn_11 ?_
    refine g_P_91 F d_P_isVariableIn_14 ?_
    refine qv_iload_n F d_P_isVariableIn_17 2 rfl ?_
    refine i_P_123i F (c_P_methodOf l X σ k (by omega)) (by decide) (Nat.le_of_ble_eq_true rfl) d_P_isVariableIn_18 ?_
    refine ld_17 F (by omega) d_P_isVariableIn_21 ?_
    refine i_P_41i F (c_P_isWithin l X σ x (σ 17 (k / 4)) (by omega)) (by decide) (Nat.le_of_ble_eq_true rfl) d_P_isVariableIn_22 ?_
    refine qv_ifeqB F d_P_isVariableIn_25 rfl (fun hb => ?_) (fun hb => ?_)
    ·
      refine qv_iconst F (nI 0) d_P_isVariableIn_32 ic_0 ?_
      exact qv_zret F hr hlk (by first | exact Or.inl rfl | exact Or.inr rfl | exact bz_01 _) d_P_isVariableIn_33 (ei_of (by unfold iv_; rw [hy, tn_nI (by omega), hb]; rfl) rfl)
    ·
      refine qv_iconst F (nI 1) d_P_isVariableIn_28 ic_1 ?_
      refine qv_goto F d_P_isVariableIn_29 rfl ?_
      exact qv_zret F hr hlk (by first | exact Or.inl rfl | exact Or.inr rfl | exact bz_01 _) d_P_isVariableIn_33 (ei_of (by unfold iv_; rw [hy, tn_nI (by omega), hb]; rfl) rfl)
set_option maxRecDepth 100000 in
set_option maxHeartbeats 4000000 in
theorem c_P_points (l : Launch) (X : wX) (σ : sg) (x y : Int32) (hm : ∀ k, σ 17 k ≤ 8) : mt_ l X y_P_points w_P_points 2 [.ref (adr X 0), .int x, .int y] σ (ei_ (if iv_ (σ 17) x y = true then nI (σ 21 (tn_ x * 16 + tn_ y)) else nI 0) σ) := by
  refine mt_of (own := R_P) rfl pl_P (Nat.le_of_ble_eq_true rfl) ?_
  intro zp ze zs zm za zb zt zc F hr hlk
  refine qv_sub (L' := [(0, _), (1, _), (2, _)]) [0, 1, 2] rfl ?_
  refine qv_aload_n F d_P_points_0 0 rfl ?_
  refine qv_iload_n F d_P_points_1 1 rfl ?_
  refine qv_iload_n F d_P_points_2 2 rfl ?_
  refine i_P_82i F (c_P_isVariableIn l X σ x y hm) (by decide) (Nat.le_of_ble_eq_true rfl) d_P_points_3 ?_
  refine qv_ifneB F d_P_points_6 rfl (fun hb => ?_) (fun hb => ?_)
  ·
    have hx := hb
    obtain ⟨j, k, hj, hk, rfl, rfl⟩ := iv_t hm hx
    refine qv_aload_n F d_P_points_11 0 rfl ?_
    refine g_P_26 F d_P_points_12 ?_
    refine qv_iload_n F d_P_points_15 1 rfl ?_
    refine qv_iload_n F d_P_points_16 2 rfl ?_
    refine i_P_85i F (c_T_pointedTo l X σ j k (by omega)) (by decide) (Nat.le_of_ble_eq_true rfl) d_P_points_17 ?_
    exact qv_iret F hr hlk d_P_points_20 (ei_of (by rw [hx, tn_nI (by omega), tn_nI (by omega)]; rfl) rfl)
  ·
    refine qv_iconst F (nI 0) d_P_points_9 ic_0 ?_
    exact qv_iret F hr hlk d_P_points_10 (ei_of (by rw [hb]; rfl) rfl)
set_option maxRecDepth 100000 in
set_option maxHeartbeats 4000000 in
theorem c_P_alias (l : Launch) (X : wX) (σ : sg) (x y z w : Int32) (hm : ∀ k, σ 17 k ≤ 8) (h21 : ∀ k, σ 21 k < 256) : mt_ l X y_P_alias w_P_alias 2 [.ref (adr X 0), .int x, .int y, .int z, .int w] σ (ei_ (nI (iv_ (σ 17) x y && (iv_ (σ 17) z w && !decide (σ 21 (tn_ x * 16 + tn_ y) &&& σ 21 (tn_ z * 16 + tn_ w) = 0))).toNat) σ) := by
  refine mt_of (own := R_P) rfl pl_P (Nat.le_of_ble_eq_true rfl) ?_
  intro zp ze zs zm za zb zt zc F hr hlk
  refine qv_sub (L' := [(0, _), (1, _), (2, _), (3, _), (4, _)]) [0, 1, 2, 3, 4] rfl ?_
  refine qv_aload_n F d_P_alias_0 0 rfl ?_
  refine qv_iload_n F d_P_alias_1 1 rfl ?_
  refine qv_iload_n F d_P_alias_2 2 rfl ?_
  refine i_P_82i F (c_P_isVariableIn l X σ x y hm) (by decide) (Nat.le_of_ble_eq_true rfl) d_P_alias_3 ?_
  refine qv_ifeqB F d_P_alias_6 rfl (fun hb => ?_) (fun hb => ?_)
  ·
    refine qv_iconst F (nI 0) d_P_alias_19 ic_0 ?_
    exact qv_zret F hr hlk (by first | exact Or.inl rfl | exact Or.inr rfl | exact bz_01 _) d_P_alias_20 (ei_of (by rw [hb]; rfl) rfl)
  ·
    have hx := hb
    refine qv_aload_n F d_P_alias_9 0 rfl ?_
    refine qv_iload_n F d_P_alias_10 3 rfl ?_
    refine qv_iload F d_P_alias_11 4 rfl ?_
    refine i_P_82i F (c_P_isVariableIn l X σ z w hm) (by decide) (Nat.le_of_ble_eq_true rfl) d_P_alias_13 ?_
    refine qv_ifneB F d_P_alias_16 rfl (fun hb => ?_) (fun hb => ?_)
    ·
      have hz := hb
      obtain ⟨j, k, hj, hk, rfl, rfl⟩ := iv_t hm hx
      obtain ⟨a, b, ha, hb1, rfl, rfl⟩ := iv_t hm hz
      have q := and_256 (a := σ 21 (j * 16 + k)) (h21 (a * 16 + b))
      refine qv_aload_n F d_P_alias_21 0 rfl ?_
      refine g_P_26 F d_P_alias_22 ?_
      refine qv_iload_n F d_P_alias_25 1 rfl ?_
      refine qv_iload_n F d_P_alias_26 2 rfl ?_
      refine i_P_85i F (c_T_pointedTo l X σ j k (by omega)) (by decide) (Nat.le_of_ble_eq_true rfl) d_P_alias_27 ?_
      refine qv_aload_n F d_P_alias_30 0 rfl ?_
      refine g_P_26 F d_P_alias_31 ?_
      refine qv_iload_n F d_P_alias_34 3 rfl ?_
      refine qv_iload F d_P_alias_35 4 rfl ?_
      refine i_P_85i F (c_T_pointedTo l X σ a b (by omega)) (by decide) (Nat.le_of_ble_eq_true rfl) d_P_alias_37 ?_
      refine qv_iand F d_P_alias_40 ?_
      refine qv_ifeq F d_P_alias_41 rfl (by omega) (fun hb => ?_) (fun hb => ?_)
      ·
        refine qv_iconst F (nI 0) d_P_alias_48 ic_0 ?_
        exact qv_zret F hr hlk (by first | exact Or.inl rfl | exact Or.inr rfl | exact bz_01 _) d_P_alias_49 (ei_of (by rw [hx, hz, tn_nI (by omega), tn_nI (by omega), tn_nI (by omega), tn_nI (by omega), decide_eq_true hb]; rfl) rfl)
      ·
        refine qv_iconst F (nI 1) d_P_alias_44 ic_1 ?_
        refine qv_goto F d_P_alias_45 rfl ?_
        exact qv_zret F hr hlk (by first | exact Or.inl rfl | exact Or.inr rfl | exact bz_01 _) d_P_alias_49 (ei_of (by rw [hx, hz, tn_nI (by omega), tn_nI (by omega), tn_nI (by omega), tn_nI (by omega), decide_eq_false hb]; rfl) rfl)
    ·
      refine qv_iconst F (nI 0) d_P_alias_19 ic_0 ?_
      exact qv_zret F hr hlk (by first | exact Or.inl rfl | exact Or.inr rfl | exact bz_01 _) d_P_alias_20 (ei_of (by rw [hx, hb]; rfl) rfl)
def cx_ (t17 t18 t11 : Nat → Nat) (n : Nat) (x y : Int32) : Int32 := if (wi_ x n && wi_ y (t17 (t11 (tn_ x)))) = true then nI (t18 (tn_ x) + tn_ y) else -1
set_option maxRecDepth 100000 in
set_option maxHeartbeats 4000000 in
theorem c_P_context (l : Launch) (X : wX) (σ : sg) (x y : Int32) (hn : σ 2 2 ≤ 8) (h11 : ∀ k, σ 11 k < 4) (hm : ∀ k, σ 17 k ≤ 8) : mt_ l X y_P_context w_P_context 1 [.ref (adr X 0), .int x, .int y] σ (ei_ (cx_ (σ 17) (σ 18) (σ 11) (σ 2 2) x y) σ) := by
  refine mt_of (own := R_P) rfl pl_P (Nat.le_of_ble_eq_true rfl) ?_
  intro zp ze zs zm za zb zt zc F hr hlk
  refine qv_sub (L' := [(0, _), (1, _), (2, _)]) [0, 1, 2] rfl ?_
  refine qv_iload_n F d_P_context_0 1 rfl ?_
  refine qv_aload_n F d_P_context_1 0 rfl ?_
  refine g_P_19 F d_P_context_2 ?_
  refine g_P_94 F d_P_context_5 ?_
  refine i_P_41i F (c_P_isWithin l X σ x (σ 2 2) (by omega)) (by decide) (Nat.le_of_ble_eq_true rfl) d_P_context_8 ?_
  refine qv_ifneB F d_P_context_11 rfl (fun hb => ?_) (fun hb => ?_)
  ·
    have hx := hb
    obtain ⟨j, hj, rfl⟩ := wi_t (by omega) hb
    have q11 := h11 j
    have q17 := hm (σ 11 j)
    refine qv_iload_n F d_P_context_16 2 rfl ?_
    refine qv_aload_n F d_P_context_17 0 rfl ?_
    refine g_P_19 F d_P_context_18 ?_
    refine g_P_91 F d_P_context_21 ?_
    refine qv_aload_n F d_P_context_24 0 rfl ?_
    refine g_P_12 F d_P_context_25 ?_
    refine g_P_97 F d_P_context_28 ?_
    refine qv_iload_n F d_P_context_31 1 rfl ?_
    refine ld_11 F (by omega) d_P_context_32 ?_
    refine ld_17 F (by omega) d_P_context_33 ?_
    refine i_P_41i F (c_P_isWithin l X σ y (σ 17 (σ 11 j)) (by omega)) (by decide) (Nat.le_of_ble_eq_true rfl) d_P_context_34 ?_
    refine qv_ifneB F d_P_context_37 rfl (fun hb => ?_) (fun hb => ?_)
    ·
      have hy := hb
      obtain ⟨k, hk, rfl⟩ := wi_t (by omega) hb
      refine qv_aload_n F d_P_context_42 0 rfl ?_
      refine g_P_19 F d_P_context_43 ?_
      refine qv_iload_n F d_P_context_46 1 rfl ?_
      refine qv_iload_n F d_P_context_47 2 rfl ?_
      refine i_P_100i F (c_N_contextBy l X σ j k (by omega)) (by decide) (Nat.le_of_ble_eq_true rfl) d_P_context_48 ?_
      exact qv_iret F hr hlk d_P_context_51 (ei_of (by unfold cx_; rw [hx, tn_nI (by omega), hy, tn_nI (by omega)]; rfl) rfl)
    ·
      refine qv_iconst F (-1) d_P_context_40 ic_m1 ?_
      exact qv_iret F hr hlk d_P_context_41 (ei_of (by unfold cx_; rw [hx, tn_nI (by omega), hb]; rfl) rfl)
  ·
    refine qv_iconst F (-1) d_P_context_14 ic_m1 ?_
    exact qv_iret F hr hlk d_P_context_15 (ei_of (by unfold cx_; rw [hb]; rfl) rfl)
theorem of_t {y : Int32} {n : Nat} (h : of_ y n = true) : ∃ k : Nat, k < 16 ∧ y = nI k := by
  unfold of_ at h
  rw [Bool.and_eq_true] at h
  exact wi_t (by decide) h.1
theorem mp_t {t : sg} {n : Nat} (hn : n ≤ 8) {x y z : Int32} {b : Bool} (h : mp_ t n x y z b = true) : ∃ j k i : Nat, j < n ∧ k < 16 ∧ i < 16 ∧ x = nI j ∧ y = nI k ∧ z = nI i := by
  unfold mp_ at h
  rw [Bool.and_eq_true] at h
  obtain ⟨j, hj, e1⟩ := wi_t (by omega) h.1
  have h2 := h.2
  cases b with
  | true =>
    rw [if_pos rfl, Bool.and_eq_true] at h2
    obtain ⟨k, hk, e2⟩ := of_t h2.1
    obtain ⟨i, hi, e3⟩ := of_t h2.2
    exact ⟨j, k, i, hj, hk, hi, e1, e2, e3⟩
  | false =>
    rw [if_neg (by decide), Bool.and_eq_true] at h2
    obtain ⟨k, hk, e2⟩ := of_t h2.1
    obtain ⟨i, hi, e3⟩ := of_t h2.2
    exact ⟨j, k, i, hj, hk, hi, e1, e2, e3⟩
def pn_ (b : Bool) (n : Nat) : Int32 := if b = true then (if n < 4 then nI (n + 1) else -2) else -1
set_option maxRecDepth 100000 in
set_option maxHeartbeats 4000000 in
theorem c_P_pass (l : Launch) (X : wX) (σ : sg) (x y z : Int32) (b : Bool) (hs : σ 1 7 ≤ 8) (h11 : ∀ k, σ 11 k < 4) (h12 : ∀ k, σ 12 k < 4) (h13 : ∀ k, σ 13 k ≤ 4) : mt_ l X y_P_pass w_P_pass 3 [.ref (adr X 0), .int x, .int y, .int z, .int (nI b.toNat)] σ (ei_ (pn_ (mp_ σ (σ 1 7) x y z b) (σ 13 (tn_ x))) (if mp_ σ (σ 1 7) x y z b = true then (if σ 13 (tn_ x) < 4 then ap_ σ (tn_ x) (tn_ y) (tn_ z) b.toNat else σ) else σ)) := by
  refine mt_of (own := R_P) rfl pl_P (Nat.le_of_ble_eq_true rfl) ?_
  intro zp ze zs zm za zb zt zc F hr hlk
  refine qv_sub (L' := [(0, _), (1, _), (2, _), (3, _), (4, _)]) [0, 1, 2, 3, 4] rfl ?_
  refine qv_aload_n F d_P_pass_0 0 rfl ?_
  refine g_P_12 F d_P_pass_1 ?_
  refine qv_iload_n F d_P_pass_4 1 rfl ?_
  refine qv_iload_n F d_P_pass_5 2 rfl ?_
  refine qv_iload_n F d_P_pass_6 3 rfl ?_
  refine qv_iload F d_P_pass_7 4 rfl ?_
  refine i_P_63i F (c_G_mayPass l X σ x y z b hs h11 h12) (by decide) (Nat.le_of_ble_eq_true rfl) d_P_pass_9 ?_
  refine qv_ifneB F d_P_pass_12 rfl (fun hb => ?_) (fun hb => ?_)
  ·
    have hx := hb
    obtain ⟨j, k, i, hj, hk, hi, rfl, rfl, rfl⟩ := mp_t hs hx
    refine qv_aload_n F d_P_pass_17 0 rfl ?_
    refine g_P_12 F d_P_pass_18 ?_
    refine qv_iload_n F d_P_pass_21 1 rfl ?_
    refine qv_iload_n F d_P_pass_22 2 rfl ?_
    refine qv_iload_n F d_P_pass_23 3 rfl ?_
    refine qv_iload F d_P_pass_24 4 rfl ?_
    refine i_P_67i F (c_G_addPass l X σ j k i b (by omega) (h13 j)) (by decide) (Nat.le_of_ble_eq_true rfl) d_P_pass_26 ?_
    exact qv_iret F hr hlk d_P_pass_29 (ei_of (by unfold pn_; rw [hx, tn_nI (by omega)]; rfl) (by rw [hx, tn_nI (by omega), tn_nI (by omega), tn_nI (by omega)]; rfl))
  ·
    refine qv_iconst F (-1) d_P_pass_15 ic_m1 ?_
    exact qv_iret F hr hlk d_P_pass_16 (ei_of (by unfold pn_; rw [hb]; rfl) (by rw [hb]; rfl))
end
section
/-! the reference's face: told, asked -/
theorem wi_gt {x h : Int32} {n : Nat} (hh : h.toInt = (n : Int) - 1) (q : h < x) : wi_ x n = false := by
  have h1 : h.toInt < x.toInt := Int32.lt_iff_toInt_lt.mp q
  unfold wi_
  rw [decide_eq_false_iff_not]
  omega
theorem wi_le {x h : Int32} {n : Nat} (hh : h.toInt = (n : Int) - 1) (q0 : ¬ x < 0) (q : ¬ h < x) : wi_ x n = true := by
  have h1 : ¬ h.toInt < x.toInt := fun z => q (Int32.lt_iff_toInt_lt.mpr z)
  have h2 : ¬ x.toInt < (0 : Int32).toInt := fun z => q0 (Int32.lt_iff_toInt_lt.mpr z)
  have h3 : (0 : Int32).toInt = 0 := by decide
  unfold wi_
  rw [decide_eq_true_eq]
  omega
set_option maxRecDepth 100000 in
set_option maxHeartbeats 4000000 in
theorem c_M_in (l : Launch) (X : wX) (σ : sg) (x h : Int32) (n : Nat) (hh : h.toInt = (n : Int) - 1) : mt_ l X y_M_in w_M_in 0 [.int x, .int h] σ (ei_ (nI (wi_ x n).toNat) σ) := by
  refine mt_of (own := R_M) rfl pl_M (Nat.le_of_ble_eq_true rfl) ?_
  intro zp ze zs zm za zb zt zc F hr hlk
  refine qv_sub (L' := [(0, _), (1, _)]) [0, 1] rfl ?_
  refine qv_iload_n F d_M_in_0 0 rfl ?_
  refine qv_iflt F d_M_in_1 rfl (fun hb => ?_) (fun hb => ?_)
  ·
    refine qv_iconst F (nI 0) d_M_in_13 ic_0 ?_
    exact qv_zret F hr hlk (by first | exact Or.inl rfl | exact Or.inr rfl | exact bz_01 _) d_M_in_14 (ei_of (by rw [wi_neg hb]; rfl) rfl)
  ·
    have h0 := hb
    refine qv_iload_n F d_M_in_4 0 rfl ?_
    refine qv_iload_n F d_M_in_5 1 rfl ?_
    refine qv_icmpgtI F d_M_in_6 rfl (fun hb => ?_) (fun hb => ?_)
    ·
      refine qv_iconst F (nI 0) d_M_in_13 ic_0 ?_
      exact qv_zret F hr hlk (by first | exact Or.inl rfl | exact Or.inr rfl | exact bz_01 _) d_M_in_14 (ei_of (by rw [wi_gt hh hb]; rfl) rfl)
    ·
      refine qv_iconst F (nI 1) d_M_in_9 ic_1 ?_
      refine qv_goto F d_M_in_10 rfl ?_
      exact qv_zret F hr hlk (by first | exact Or.inl rfl | exact Or.inr rfl | exact bz_01 _) d_M_in_14 (ei_of (by rw [wi_le hh h0 hb]; rfl) rfl)
set_option maxRecDepth 100000 in
set_option maxHeartbeats 4000000 in
theorem c_M_kind (l : Launch) (X : wX) (σ : sg) (x y : Int32) : mt_ l X y_M_kind w_M_kind 1 [.ref (adr X 28), .int x, .int y] σ (ei_ (nI (wi_ x 8 && wi_ y 4).toNat) (if (wi_ x 8 && wi_ y 4) = true then us σ 29 (tn_ x) (tn_ y) else σ)) := by
  refine mt_of (own := R_M) rfl pl_M (Nat.le_of_ble_eq_true rfl) ?_
  intro zp ze zs zm za zb zt zc F hr hlk
  refine qv_sub (L' := [(0, _), (1, _), (2, _)]) [0, 1, 2] rfl ?_
  refine qv_iload_n F d_M_kind_0 1 rfl ?_
  refine qv_bipush F (nI 7) d_M_kind_1 bic_7 ?_
  refine i_M_71i F (c_M_in l X σ x (nI 7) 8 (by decide)) (by decide) (Nat.le_of_ble_eq_true rfl) d_M_kind_3 ?_
  refine qv_ifeqB F d_M_kind_6 rfl (fun hb => ?_) (fun hb => ?_)
  ·
    refine qv_iconst F (nI 0) d_M_kind_17 ic_0 ?_
    exact qv_zret F hr hlk (by first | exact Or.inl rfl | exact Or.inr rfl | exact bz_01 _) d_M_kind_18 (ei_of (by rw [hb]; rfl) (by rw [hb]; rfl))
  ·
    have hx := hb
    obtain ⟨j, hj, rfl⟩ := wi_t (by decide) hb
    refine qv_iload_n F d_M_kind_9 2 rfl ?_
    refine qv_iconst F (nI 3) d_M_kind_10 ic_3 ?_
    refine i_M_71i F (c_M_in l X σ y (nI 3) 4 (by decide)) (by decide) (Nat.le_of_ble_eq_true rfl) d_M_kind_11 ?_
    refine qv_ifneB F d_M_kind_14 rfl (fun hb => ?_) (fun hb => ?_)
    ·
      have hy := hb
      obtain ⟨k, hk, rfl⟩ := wi_t (by decide) hb
      refine qv_aload_n F d_M_kind_19 0 rfl ?_
      refine g_M_7 F d_M_kind_20 ?_
      refine qv_iload_n F d_M_kind_23 1 rfl ?_
      refine qv_iload_n F d_M_kind_24 2 rfl ?_
      refine sv_29 F (by omega) d_M_kind_25 ?_
      refine qv_iconst F (nI 1) d_M_kind_26 ic_1 ?_
      exact qv_zret F hr hlk (by first | exact Or.inl rfl | exact Or.inr rfl | exact bz_01 _) d_M_kind_27 (ei_of (by rw [hx, hy]; rfl) (by rw [hx, hy, tn_nI (by omega), tn_nI (by omega)]; rfl))
    ·
      refine qv_iconst F (nI 0) d_M_kind_17 ic_0 ?_
      exact qv_zret F hr hlk (by first | exact Or.inl rfl | exact Or.inr rfl | exact bz_01 _) d_M_kind_18 (ei_of (by rw [hx, hb]; rfl) (by rw [hx, hb]; rfl))
set_option maxRecDepth 100000 in
set_option maxHeartbeats 4000000 in
theorem c_M_accept (l : Launch) (X : wX) (σ : sg) (x y : Int32) : mt_ l X y_M_accept w_M_accept 1 [.ref (adr X 28), .int x, .int y] σ (ei_ (nI (wi_ x 16 && wi_ y 16).toNat) (if (wi_ x 16 && wi_ y 16) = true then us σ 30 (tn_ x) (tn_ y) else σ)) := by
  refine mt_of (own := R_M) rfl pl_M (Nat.le_of_ble_eq_true rfl) ?_
  intro zp ze zs zm za zb zt zc F hr hlk
  refine qv_sub (L' := [(0, _), (1, _), (2, _)]) [0, 1, 2] rfl ?_
  refine qv_iload_n F d_M_accept_0 1 rfl ?_
  refine qv_bipush F (nI 15) d_M_accept_1 bic_15 ?_
  refine i_M_71i F (c_M_in l X σ x (nI 15) 16 (by decide)) (by decide) (Nat.le_of_ble_eq_true rfl) d_M_accept_3 ?_
  refine qv_ifeqB F d_M_accept_6 rfl (fun hb => ?_) (fun hb => ?_)
  ·
    refine qv_iconst F (nI 0) d_M_accept_18 ic_0 ?_
    exact qv_zret F hr hlk (by first | exact Or.inl rfl | exact Or.inr rfl | exact bz_01 _) d_M_accept_19 (ei_of (by rw [hb]; rfl) (by rw [hb]; rfl))
  ·
    have hx := hb
    obtain ⟨j, hj, rfl⟩ := wi_t (by decide) hb
    refine qv_iload_n F d_M_accept_9 2 rfl ?_
    refine qv_bipush F (nI 15) d_M_accept_10 bic_15 ?_
    refine i_M_71i F (c_M_in l X σ y (nI 15) 16 (by decide)) (by decide) (Nat.le_of_ble_eq_true rfl) d_M_accept_12 ?_
    refine qv_ifneB F d_M_accept_15 rfl (fun hb => ?_) (fun hb => ?_)
    ·
      have hy := hb
      obtain ⟨k, hk, rfl⟩ := wi_t (by decide) hb
      refine qv_aload_n F d_M_accept_20 0 rfl ?_
      refine g_M_13 F d_M_accept_21 ?_
      refine qv_iload_n F d_M_accept_24 1 rfl ?_
      refine qv_iload_n F d_M_accept_25 2 rfl ?_
      refine sv_30 F (by omega) d_M_accept_26 ?_
      refine qv_iconst F (nI 1) d_M_accept_27 ic_1 ?_
      exact qv_zret F hr hlk (by first | exact Or.inl rfl | exact Or.inr rfl | exact bz_01 _) d_M_accept_28 (ei_of (by rw [hx, hy]; rfl) (by rw [hx, hy, tn_nI (by omega), tn_nI (by omega)]; rfl))
    ·
      refine qv_iconst F (nI 0) d_M_accept_18 ic_0 ?_
      exact qv_zret F hr hlk (by first | exact Or.inl rfl | exact Or.inr rfl | exact bz_01 _) d_M_accept_19 (ei_of (by rw [hx, hb]; rfl) (by rw [hx, hb]; rfl))
def asM_ (σ : sg) (a v w f : Nat) : sg := us (us (us (us (us σ 31 (σ 28 2) a) 32 (σ 28 2) v) 33 (σ 28 2) w) 34 (σ 28 2) f) 28 2 (σ 28 2 + 1)
set_option maxRecDepth 100000 in
set_option maxHeartbeats 4000000 in
theorem c_M_statement (l : Launch) (X : wX) (σ : sg) (a v w f : Nat) (hs : σ 28 2 ≤ 40) : mt_ l X y_M_statement w_M_statement 0 [.ref (adr X 28), .int (nI a), .int (nI v), .int (nI w), .int (nI f)] σ (ei_ (if σ 28 2 < 40 then nI (σ 28 2 + 1) else -2) (if σ 28 2 < 40 then asM_ σ a v w f else σ)) := by
  refine mt_of (own := R_M) rfl pl_M (Nat.le_of_ble_eq_true rfl) ?_
  intro zp ze zs zm za zb zt zc F hr hlk
  refine qv_sub (L' := [(0, _), (1, _), (2, _), (3, _), (4, _)]) [0, 1, 2, 3, 4] rfl ?_
  refine qv_aload_n F d_M_statement_0 0 rfl ?_
  refine g_M_75 F d_M_statement_1 ?_
  refine qv_bipush F (nI 40) d_M_statement_4 bic_40 ?_
  refine qv_icmpne F d_M_statement_6 rfl (by omega) (by omega) (fun hb => ?_) (fun hb => ?_)
  ·
    have hb : σ 28 2 < 40 := by omega
    refine qv_aload_n F d_M_statement_12 0 rfl ?_
    refine g_M_16 F d_M_statement_13 ?_
    refine qv_aload_n F d_M_statement_16 0 rfl ?_
    refine g_M_75 F d_M_statement_17 ?_
    refine qv_iload_n F d_M_statement_20 1 rfl ?_
    refine sv_31 F hb d_M_statement_21 ?_
    refine qv_aload_n F d_M_statement_22 0 rfl ?_
    refine g_M_19 F d_M_statement_23 ?_
    refine qv_aload_n F d_M_statement_26 0 rfl ?_
    refine g_M_75 F d_M_statement_27 ?_
    refine qv_iload_n F d_M_statement_30 2 rfl ?_
    refine sv_32 F hb d_M_statement_31 ?_
    refine qv_aload_n F d_M_statement_32 0 rfl ?_
    refine g_M_22 F d_M_statement_33 ?_
    refine qv_aload_n F d_M_statement_36 0 rfl ?_
    refine g_M_75 F d_M_statement_37 ?_
    refine qv_iload_n F d_M_statement_40 3 rfl ?_
    refine sv_33 F hb d_M_statement_41 ?_
    refine qv_aload_n F d_M_statement_42 0 rfl ?_
    refine g_M_25 F d_M_statement_43 ?_
    refine qv_aload_n F d_M_statement_46 0 rfl ?_
    refine g_M_75 F d_M_statement_47 ?_
    refine qv_iload F d_M_statement_50 4 rfl ?_
    refine sv_34 F hb d_M_statement_52 ?_
    refine qv_aload_n F d_M_statement_53 0 rfl ?_
    refine qv_dup F d_M_statement_54 rfl ?_
    refine g_M_75 F d_M_statement_55 ?_
    refine qv_iconst F (nI 1) d_M_statement_58 ic_1 ?_
    refine qv_iadd F d_M_statement_59 ?_
    refine p_M_75 F d_M_statement_60 ?_
    refine qv_aload_n F d_M_statement_63 0 rfl ?_
    refine g_M_75 F d_M_statement_64 ?_
    rw [if_pos hb, if_pos hb]
    exact qv_iret F hr hlk d_M_statement_67 (ei_of rfl rfl)
  ·
    refine qv_bipush F (-2) d_M_statement_9 bic_m2 ?_
    rw [if_neg (by omega), if_neg (by omega)]
    exact qv_iret F hr hlk d_M_statement_11 (ei_of rfl rfl)
set_option maxRecDepth 100000 in
set_option maxHeartbeats 4000000 in
theorem c_M_together (l : Launch) (X : wX) (σ : sg) (x y : Int32) : mt_ l X y_M_together w_M_together 1 [.int x, .int y] σ (ei_ (nI (om_ x y).toNat) σ) := by
  refine mt_of (own := R_M) rfl pl_M (Nat.le_of_ble_eq_true rfl) ?_
  intro zp ze zs zm za zb zt zc F hr hlk
  refine qv_sub (L' := [(0, _), (1, _)]) [0, 1] rfl ?_
  refine qv_iload_n F d_M_together_0 0 rfl ?_
  refine qv_bipush F (nI 15) d_M_together_1 bic_15 ?_
  refine i_M_71i F (c_M_in l X σ x (nI 15) 16 (by decide)) (by decide) (Nat.le_of_ble_eq_true rfl) d_M_together_3 ?_
  refine qv_ifeqB F d_M_together_6 rfl (fun hb => ?_) (fun hb => ?_)
  ·
    refine qv_iconst F (nI 0) d_M_together_31 ic_0 ?_
    exact qv_zret F hr hlk (by first | exact Or.inl rfl | exact Or.inr rfl | exact bz_01 _) d_M_together_32 (ei_of (by unfold om_; rw [hb]; cases wi_ y 16 <;> rfl) rfl)
  ·
    have hx := hb
    refine qv_iload_n F d_M_together_9 1 rfl ?_
    refine qv_bipush F (nI 15) d_M_together_10 bic_15 ?_
    refine i_M_71i F (c_M_in l X σ y (nI 15) 16 (by decide)) (by decide) (Nat.le_of_ble_eq_true rfl) d_M_together_12 ?_
    refine qv_ifeqB F d_M_together_15 rfl (fun hb => ?_) (fun hb => ?_)
    ·
      refine qv_iconst F (nI 0) d_M_together_31 ic_0 ?_
      exact qv_zret F hr hlk (by first | exact Or.inl rfl | exact Or.inr rfl | exact bz_01 _) d_M_together_32 (ei_of (by unfold om_; rw [hb]; rfl) rfl)
    ·
      have hy := hb
      obtain ⟨j, hj, rfl⟩ := wi_t (by decide) hx
      obtain ⟨k, hk, rfl⟩ := wi_t (by decide) hy
      refine qv_iload_n F d_M_together_18 0 rfl ?_
      refine qv_iconst F (nI 4) d_M_together_19 ic_4 ?_
      refine qv_idiv F d_M_together_20 (by omega) (by decide) (by decide) ?_
      refine qv_iload_n F d_M_together_21 1 rfl ?_
      refine qv_iconst F (nI 4) d_M_together_22 ic_4 ?_
      refine qv_idiv F d_M_together_23 (by omega) (by decide) (by decide) ?_
      refine qv_icmpne F d_M_together_24 rfl (by omega) (by omega) (fun hb => ?_) (fun hb => ?_)
      ·
        refine qv_iconst F (nI 0) d_M_together_31 ic_0 ?_
        exact qv_zret F hr hlk (by first | exact Or.inl rfl | exact Or.inr rfl | exact bz_01 _) d_M_together_32 (ei_of (by unfold om_; rw [hx, hy, tn_nI (by omega), tn_nI (by omega), decide_eq_false hb]; rfl) rfl)
      ·
        refine qv_iconst F (nI 1) d_M_together_27 ic_1 ?_
        refine qv_goto F d_M_together_28 rfl ?_
        exact qv_zret F hr hlk (by first | exact Or.inl rfl | exact Or.inr rfl | exact bz_01 _) d_M_together_32 (ei_of (by unfold om_; rw [hx, hy, tn_nI (by omega), tn_nI (by omega), decide_eq_true hb]; rfl) rfl)
def snM_ (b : Bool) (σ : sg) (a v w f : Nat) : sg := if b = true then (if σ 28 2 < 40 then asM_ σ a v w f else σ) else σ
set_option maxRecDepth 100000 in
set_option maxHeartbeats 4000000 in
theorem c_M_make (l : Launch) (X : wX) (σ : sg) (x y : Int32) (hs : σ 28 2 ≤ 40) : mt_ l X y_M_make w_M_make 1 [.ref (adr X 28), .int x, .int y] σ (ei_ (an_ (wi_ x 16 && wi_ y 8) (σ 28 2)) (snM_ (wi_ x 16 && wi_ y 8) σ 0 (tn_ x) (tn_ y) 0)) := by
  refine mt_of (own := R_M) rfl pl_M (Nat.le_of_ble_eq_true rfl) ?_
  intro zp ze zs zm za zb zt zc F hr hlk
  refine qv_sub (L' := [(0, _), (1, _), (2, _)]) [0, 1, 2] rfl ?_
  refine qv_iload_n F d_M_make_0 1 rfl ?_
  refine qv_bipush F (nI 15) d_M_make_1 bic_15 ?_
  refine i_M_71i F (c_M_in l X σ x (nI 15) 16 (by decide)) (by decide) (Nat.le_of_ble_eq_true rfl) d_M_make_3 ?_
  refine qv_ifeqB F d_M_make_6 rfl (fun hb => ?_) (fun hb => ?_)
  ·
    refine qv_iconst F (-1) d_M_make_29 ic_m1 ?_
    exact qv_iret F hr hlk d_M_make_30 (ei_of (by rw [hb]; rfl) (by rw [hb]; rfl))
  ·
    have hx := hb
    obtain ⟨j, hj, rfl⟩ := wi_t (by decide) hb
    refine qv_iload_n F d_M_make_9 2 rfl ?_
    refine qv_bipush F (nI 7) d_M_make_10 bic_7 ?_
    refine i_M_71i F (c_M_in l X σ y (nI 7) 8 (by decide)) (by decide) (Nat.le_of_ble_eq_true rfl) d_M_make_12 ?_
    refine qv_ifeqB F d_M_make_15 rfl (fun hb => ?_) (fun hb => ?_)
    ·
      refine qv_iconst F (-1) d_M_make_29 ic_m1 ?_
      exact qv_iret F hr hlk d_M_make_30 (ei_of (by rw [hx, hb]; rfl) (by rw [hx, hb]; rfl))
    ·
      have hy := hb
      obtain ⟨k, hk, rfl⟩ := wi_t (by decide) hb
      refine qv_aload_n F d_M_make_18 0 rfl ?_
      refine qv_iconst F (nI 0) d_M_make_19 ic_0 ?_
      refine qv_iload_n F d_M_make_20 1 rfl ?_
      refine qv_iload_n F d_M_make_21 2 rfl ?_
      refine qv_iconst F (nI 0) d_M_make_22 ic_0 ?_
      refine i_M_79i F (c_M_statement l X σ 0 j k 0 hs) (by decide) (Nat.le_of_ble_eq_true rfl) d_M_make_23 ?_
      refine qv_goto F d_M_make_26 rfl ?_
      exact qv_iret F hr hlk d_M_make_30 (ei_of (by rw [hx, hy]; rfl) (by rw [hx, hy, tn_nI (by omega), tn_nI (by omega)]; rfl))
set_option maxRecDepth 100000 in
set_option maxHeartbeats 4000000 in
theorem c_M_copy (l : Launch) (X : wX) (σ : sg) (x y : Int32) (hs : σ 28 2 ≤ 40) : mt_ l X y_M_copy w_M_copy 2 [.ref (adr X 28), .int x, .int y] σ (ei_ (an_ (om_ x y) (σ 28 2)) (snM_ (om_ x y) σ 1 (tn_ x) (tn_ y) 0)) := by
  refine mt_of (own := R_M) rfl pl_M (Nat.le_of_ble_eq_true rfl) ?_
  intro zp ze zs zm za zb zt zc F hr hlk
  refine qv_sub (L' := [(0, _), (1, _), (2, _)]) [0, 1, 2] rfl ?_
  refine qv_iload_n F d_M_copy_0 1 rfl ?_
  refine qv_iload_n F d_M_copy_1 2 rfl ?_
  refine i_M_83i F (c_M_together l X σ x y) (by decide) (Nat.le_of_ble_eq_true rfl) d_M_copy_2 ?_
  refine qv_ifeqB F d_M_copy_5 rfl (fun hb => ?_) (fun hb => ?_)
  ·
    refine qv_iconst F (-1) d_M_copy_19 ic_m1 ?_
    exact qv_iret F hr hlk d_M_copy_20 (ei_of (by rw [hb]; rfl) (by rw [hb]; rfl))
  ·
    have hx := hb
    obtain ⟨j, k, hj, hk, rfl, rfl⟩ := om_t hx
    refine qv_aload_n F d_M_copy_8 0 rfl ?_
    refine qv_iconst F (nI 1) d_M_copy_9 ic_1 ?_
    refine qv_iload_n F d_M_copy_10 1 rfl ?_
    refine qv_iload_n F d_M_copy_11 2 rfl ?_
    refine qv_iconst F (nI 0) d_M_copy_12 ic_0 ?_
    refine i_M_79i F (c_M_statement l X σ 1 j k 0 hs) (by decide) (Nat.le_of_ble_eq_true rfl) d_M_copy_13 ?_
    refine qv_goto F d_M_copy_16 rfl ?_
    exact qv_iret F hr hlk d_M_copy_20 (ei_of (by rw [hx]; rfl) (by rw [hx, tn_nI (by omega), tn_nI (by omega)]; rfl))
set_option maxRecDepth 100000 in
set_option maxHeartbeats 4000000 in
theorem c_M_store (l : Launch) (X : wX) (σ : sg) (x f y : Int32) (hs : σ 28 2 ≤ 40) : mt_ l X y_M_store w_M_store 2 [.ref (adr X 28), .int x, .int f, .int y] σ (ei_ (an_ (om_ x y && wi_ f 2) (σ 28 2)) (snM_ (om_ x y && wi_ f 2) σ 2 (tn_ x) (tn_ y) (tn_ f))) := by
  refine mt_of (own := R_M) rfl pl_M (Nat.le_of_ble_eq_true rfl) ?_
  intro zp ze zs zm za zb zt zc F hr hlk
  refine qv_sub (L' := [(0, _), (1, _), (2, _), (3, _)]) [0, 1, 2, 3] rfl ?_
  refine qv_iload_n F d_M_store_0 1 rfl ?_
  refine qv_iload_n F d_M_store_1 3 rfl ?_
  refine i_M_83i F (c_M_together l X σ x y) (by decide) (Nat.le_of_ble_eq_true rfl) d_M_store_2 ?_
  refine qv_ifeqB F d_M_store_5 rfl (fun hb => ?_) (fun hb => ?_)
  ·
    refine qv_iconst F (-1) d_M_store_27 ic_m1 ?_
    exact qv_iret F hr hlk d_M_store_28 (ei_of (by rw [hb]; rfl) (by rw [hb]; rfl))
  ·
    have hx := hb
    obtain ⟨j, k, hj, hk, rfl, rfl⟩ := om_t hx
    refine qv_iload_n F d_M_store_8 2 rfl ?_
    refine qv_iconst F (nI 1) d_M_store_9 ic_1 ?_
    refine i_M_71i F (c_M_in l X σ f (nI 1) 2 (by decide)) (by decide) (Nat.le_of_ble_eq_true rfl) d_M_store_10 ?_
    refine qv_ifeqB F d_M_store_13 rfl (fun hb => ?_) (fun hb => ?_)
    ·
      refine qv_iconst F (-1) d_M_store_27 ic_m1 ?_
      exact qv_iret F hr hlk d_M_store_28 (ei_of (by rw [hx, hb]; rfl) (by rw [hx, hb]; rfl))
    ·
      have hf := hb
      obtain ⟨i, hi, rfl⟩ := wi_t (by decide) hb
      refine qv_aload_n F d_M_store_16 0 rfl ?_
      refine qv_iconst F (nI 2) d_M_store_17 ic_2 ?_
      refine qv_iload_n F d_M_store_18 1 rfl ?_
      refine qv_iload_n F d_M_store_19 3 rfl ?_
      refine qv_iload_n F d_M_store_20 2 rfl ?_
      refine i_M_79i F (c_M_statement l X σ 2 j k i hs) (by decide) (Nat.le_of_ble_eq_true rfl) d_M_store_21 ?_
      refine qv_goto F d_M_store_24 rfl ?_
      exact qv_iret F hr hlk d_M_store_28 (ei_of (by rw [hx, hf]; rfl) (by rw [hx, hf, tn_nI (by omega), tn_nI (by omega), tn_nI (by omega)]; rfl))
set_option maxRecDepth 100000 in
set_option maxHeartbeats 4000000 in
theorem c_M_load (l : Launch) (X : wX) (σ : sg) (x y f : Int32) (hs : σ 28 2 ≤ 40) : mt_ l X y_M_load w_M_load 2 [.ref (adr X 28), .int x, .int y, .int f] σ (ei_ (an_ (om_ x y && wi_ f 2) (σ 28 2)) (snM_ (om_ x y && wi_ f 2) σ 3 (tn_ x) (tn_ y) (tn_ f))) := by
  refine mt_of (own := R_M) rfl pl_M (Nat.le_of_ble_eq_true rfl) ?_
  intro zp ze zs zm za zb zt zc F hr hlk
  refine qv_sub (L' := [(0, _), (1, _), (2, _), (3, _)]) [0, 1, 2, 3] rfl ?_
  refine qv_iload_n F d_M_load_0 1 rfl ?_
  refine qv_iload_n F d_M_load_1 2 rfl ?_
  refine i_M_83i F (c_M_together l X σ x y) (by decide) (Nat.le_of_ble_eq_true rfl) d_M_load_2 ?_
  refine qv_ifeqB F d_M_load_5 rfl (fun hb => ?_) (fun hb => ?_)
  ·
    refine qv_iconst F (-1) d_M_load_27 ic_m1 ?_
    exact qv_iret F hr hlk d_M_load_28 (ei_of (by rw [hb]; rfl) (by rw [hb]; rfl))
  ·
    have hx := hb
    obtain ⟨j, k, hj, hk, rfl, rfl⟩ := om_t hx
    refine qv_iload_n F d_M_load_8 3 rfl ?_
    refine qv_iconst F (nI 1) d_M_load_9 ic_1 ?_
    refine i_M_71i F (c_M_in l X σ f (nI 1) 2 (by decide)) (by decide) (Nat.le_of_ble_eq_true rfl) d_M_load_10 ?_
    refine qv_ifeqB F d_M_load_13 rfl (fun hb => ?_) (fun hb => ?_)
    ·
      refine qv_iconst F (-1) d_M_load_27 ic_m1 ?_
      exact qv_iret F hr hlk d_M_load_28 (ei_of (by rw [hx, hb]; rfl) (by rw [hx, hb]; rfl))
    ·
      have hf := hb
      obtain ⟨i, hi, rfl⟩ := wi_t (by decide) hb
      refine qv_aload_n F d_M_load_16 0 rfl ?_
      refine qv_iconst F (nI 3) d_M_load_17 ic_3 ?_
      refine qv_iload_n F d_M_load_18 1 rfl ?_
      refine qv_iload_n F d_M_load_19 2 rfl ?_
      refine qv_iload_n F d_M_load_20 3 rfl ?_
      refine i_M_79i F (c_M_statement l X σ 3 j k i hs) (by decide) (Nat.le_of_ble_eq_true rfl) d_M_load_21 ?_
      refine qv_goto F d_M_load_24 rfl ?_
      exact qv_iret F hr hlk d_M_load_28 (ei_of (by rw [hx, hf]; rfl) (by rw [hx, hf, tn_nI (by omega), tn_nI (by omega), tn_nI (by omega)]; rfl))
def acM_ (σ : sg) (a b : Nat) : sg := us (us (us σ 35 (σ 28 7) a) 36 (σ 28 7) b) 28 7 (σ 28 7 + 1)
def csM_ (b : Bool) (σ : sg) (v w : Nat) : sg := if b = true then (if σ 28 7 < 8 then acM_ σ v w else σ) else σ
set_option maxRecDepth 100000 in
set_option maxHeartbeats 4000000 in
theorem c_M_call (l : Launch) (X : wX) (σ : sg) (x y : Int32) (hs : σ 28 7 ≤ 8) : mt_ l X y_M_call w_M_call 1 [.ref (adr X 28), .int x, .int y] σ (ei_ (cn_ (wi_ x 4 && wi_ y 4) (σ 28 7)) (csM_ (wi_ x 4 && wi_ y 4) σ (tn_ x) (tn_ y))) := by
  refine mt_of (own := R_M) rfl pl_M (Nat.le_of_ble_eq_true rfl) ?_
  intro zp ze zs zm za zb zt zc F hr hlk
  refine qv_sub (L' := [(0, _), (1, _), (2, _)]) [0, 1, 2] rfl ?_
  refine qv_iload_n F d_M_call_0 1 rfl ?_
  refine qv_iconst F (nI 3) d_M_call_1 ic_3 ?_
  refine i_M_71i F (c_M_in l X σ x (nI 3) 4 (by decide)) (by decide) (Nat.le_of_ble_eq_true rfl) d_M_call_2 ?_
  refine qv_ifeqB F d_M_call_5 rfl (fun hb => ?_) (fun hb => ?_)
  ·
    refine qv_iconst F (-1) d_M_call_16 ic_m1 ?_
    exact qv_iret F hr hlk d_M_call_17 (ei_of (by rw [hb]; rfl) (by rw [hb]; rfl))
  ·
    have hx := hb
    obtain ⟨j, hj, rfl⟩ := wi_t (by decide) hb
    refine qv_iload_n F d_M_call_8 2 rfl ?_
    refine qv_iconst F (nI 3) d_M_call_9 ic_3 ?_
    refine i_M_71i F (c_M_in l X σ y (nI 3) 4 (by decide)) (by decide) (Nat.le_of_ble_eq_true rfl) d_M_call_10 ?_
    refine qv_ifneB F d_M_call_13 rfl (fun hb => ?_) (fun hb => ?_)
    ·
      have hy := hb
      obtain ⟨k, hk, rfl⟩ := wi_t (by decide) hb
      unfold cn_ csM_
      rw [hx, hy, tn_nI (by omega), tn_nI (by omega), if_pos (show (true && true) = true from rfl), if_pos (show (true && true) = true from rfl)]
      refine qv_aload_n F d_M_call_18 0 rfl ?_
      refine g_M_86 F d_M_call_19 ?_
      refine qv_bipush F (nI 8) d_M_call_22 bic_8 ?_
      refine qv_icmpne F d_M_call_24 rfl (by omega) (by omega) (fun hb => ?_) (fun hb => ?_)
      ·
        have hb : σ 28 7 < 8 := by omega
        rw [if_pos hb, if_pos hb]
        refine qv_aload_n F d_M_call_30 0 rfl ?_
        refine g_M_28 F d_M_call_31 ?_
        refine qv_aload_n F d_M_call_34 0 rfl ?_
        refine g_M_86 F d_M_call_35 ?_
        refine qv_iload_n F d_M_call_38 1 rfl ?_
        refine sv_35 F hb d_M_call_39 ?_
        refine qv_aload_n F d_M_call_40 0 rfl ?_
        refine g_M_31 F d_M_call_41 ?_
        refine qv_aload_n F d_M_call_44 0 rfl ?_
        refine g_M_86 F d_M_call_45 ?_
        refine qv_iload_n F d_M_call_48 2 rfl ?_
        refine sv_36 F hb d_M_call_49 ?_
        refine qv_aload_n F d_M_call_50 0 rfl ?_
        refine qv_dup F d_M_call_51 rfl ?_
        refine g_M_86 F d_M_call_52 ?_
        refine qv_iconst F (nI 1) d_M_call_55 ic_1 ?_
        refine qv_iadd F d_M_call_56 ?_
        refine p_M_86 F d_M_call_57 ?_
        refine qv_aload_n F d_M_call_60 0 rfl ?_
        refine g_M_86 F d_M_call_61 ?_
        refine qv_iconst F (nI 1) d_M_call_64 ic_1 ?_
        refine qv_isub F d_M_call_65 (by show 1 ≤ σ 28 7 + 1; omega) ?_
        exact qv_iret F hr hlk d_M_call_66 (ei_of rfl rfl)
      ·
        rw [if_neg (by omega), if_neg (by omega)]
        refine qv_bipush F (-2) d_M_call_27 bic_m2 ?_
        exact qv_iret F hr hlk d_M_call_29 (ei_of rfl rfl)
    ·
      refine qv_iconst F (-1) d_M_call_16 ic_m1 ?_
      exact qv_iret F hr hlk d_M_call_17 (ei_of (by rw [hx, hb]; rfl) (by rw [hx, hb]; rfl))
set_option maxRecDepth 100000 in
set_option maxHeartbeats 4000000 in
theorem c_M_order (l : Launch) (X : wX) (σ : sg) (x : Int32) : mt_ l X y_M_order w_M_order 1 [.ref (adr X 28), .int x] σ (ei_ (nI (wi_ x 6).toNat) (if wi_ x 6 = true then us σ 28 22 (tn_ x) else σ)) := by
  refine mt_of (own := R_M) rfl pl_M (Nat.le_of_ble_eq_true rfl) ?_
  intro zp ze zs zm za zb zt zc F hr hlk
  refine qv_sub (L' := [(0, _), (1, _)]) [0, 1] rfl ?_
  refine qv_iload_n F d_M_order_0 1 rfl ?_
  refine qv_iconst F (nI 5) d_M_order_1 ic_5 ?_
  refine i_M_71i F (c_M_in l X σ x (nI 5) 6 (by decide)) (by decide) (Nat.le_of_ble_eq_true rfl) d_M_order_2 ?_
  refine qv_ifneB F d_M_order_5 rfl (fun hb => ?_) (fun hb => ?_)
  ·
    have hx := hb
    obtain ⟨j, hj, rfl⟩ := wi_t (by decide) hb
    refine qv_aload_n F d_M_order_10 0 rfl ?_
    refine qv_iload_n F d_M_order_11 1 rfl ?_
    refine p_M_139 F d_M_order_12 ?_
    refine qv_iconst F (nI 1) d_M_order_15 ic_1 ?_
    exact qv_zret F hr hlk (by first | exact Or.inl rfl | exact Or.inr rfl | exact bz_01 _) d_M_order_16 (ei_of (by rw [hx]; rfl) (by rw [hx, tn_nI (by omega)]; rfl))
  ·
    refine qv_iconst F (nI 0) d_M_order_8 ic_0 ?_
    exact qv_zret F hr hlk (by first | exact Or.inl rfl | exact Or.inr rfl | exact bz_01 _) d_M_order_9 (ei_of (by rw [hb]; rfl) (by rw [hb]; rfl))
set_option maxRecDepth 100000 in
set_option maxHeartbeats 4000000 in
theorem c_M_contexts (l : Launch) (X : wX) (σ : sg) (x : Int32) : mt_ l X y_M_contexts w_M_contexts 1 [.ref (adr X 28), .int x] σ (ei_ (if wi_ x 4 = true then nI (σ 43 (tn_ x)) else -1) σ) := by
  refine mt_of (own := R_M) rfl pl_M (Nat.le_of_ble_eq_true rfl) ?_
  intro zp ze zs zm za zb zt zc F hr hlk
  refine qv_sub (L' := [(0, _), (1, _)]) [0, 1] rfl ?_
  refine qv_iload_n F d_M_contexts_0 1 rfl ?_
  refine qv_iconst F (nI 3) d_M_contexts_1 ic_3 ?_
  refine i_M_71i F (c_M_in l X σ x (nI 3) 4 (by decide)) (by decide) (Nat.le_of_ble_eq_true rfl) d_M_contexts_2 ?_
  refine qv_ifeqB F d_M_contexts_5 rfl (fun hb => ?_) (fun hb => ?_)
  ·
    refine qv_iconst F (-1) d_M_contexts_17 ic_m1 ?_
    exact qv_iret F hr hlk d_M_contexts_18 (ei_of (by rw [hb]; rfl) rfl)
  ·
    have hx := hb
    obtain ⟨j, hj, rfl⟩ := wi_t (by decide) hb
    refine qv_aload_n F d_M_contexts_8 0 rfl ?_
    refine g_M_53 F d_M_contexts_9 ?_
    refine qv_iload_n F d_M_contexts_12 1 rfl ?_
    refine ld_43 F (by omega) d_M_contexts_13 ?_
    refine qv_goto F d_M_contexts_14 rfl ?_
    exact qv_iret F hr hlk d_M_contexts_18 (ei_of (by rw [hx, tn_nI (by omega)]; rfl) rfl)
set_option maxRecDepth 100000 in
set_option maxHeartbeats 4000000 in
theorem c_M_holds (l : Launch) (X : wX) (σ : sg) (x y : Int32) : mt_ l X y_M_holds w_M_holds 1 [.ref (adr X 28), .int x, .int y] σ (ei_ (if (wi_ x 8 && wi_ y 2) = true then nI (σ 47 (tn_ x * 2 + tn_ y)) else nI 0) σ) := by
  refine mt_of (own := R_M) rfl pl_M (Nat.le_of_ble_eq_true rfl) ?_
  intro zp ze zs zm za zb zt zc F hr hlk
  refine qv_sub (L' := [(0, _), (1, _), (2, _)]) [0, 1, 2] rfl ?_
  refine qv_iload_n F d_M_holds_0 1 rfl ?_
  refine qv_bipush F (nI 7) d_M_holds_1 bic_7 ?_
  refine i_M_71i F (c_M_in l X σ x (nI 7) 8 (by decide)) (by decide) (Nat.le_of_ble_eq_true rfl) d_M_holds_3 ?_
  refine qv_ifeqB F d_M_holds_6 rfl (fun hb => ?_) (fun hb => ?_)
  ·
    refine qv_iconst F (nI 0) d_M_holds_30 ic_0 ?_
    exact qv_iret F hr hlk d_M_holds_31 (ei_of (by rw [hb]; rfl) rfl)
  ·
    have hx := hb
    obtain ⟨j, hj, rfl⟩ := wi_t (by decide) hb
    refine qv_iload_n F d_M_holds_9 2 rfl ?_
    refine qv_iconst F (nI 1) d_M_holds_10 ic_1 ?_
    refine i_M_71i F (c_M_in l X σ y (nI 1) 2 (by decide)) (by decide) (Nat.le_of_ble_eq_true rfl) d_M_holds_11 ?_
    refine qv_ifeqB F d_M_holds_14 rfl (fun hb => ?_) (fun hb => ?_)
    ·
      refine qv_iconst F (nI 0) d_M_holds_30 ic_0 ?_
      exact qv_iret F hr hlk d_M_holds_31 (ei_of (by rw [hx, hb]; rfl) rfl)
    ·
      have hy := hb
      obtain ⟨k, hk, rfl⟩ := wi_t (by decide) hb
      refine qv_aload_n F d_M_holds_17 0 rfl ?_
      refine g_M_65 F d_M_holds_18 ?_
      refine qv_iconst F (nI 2) d_M_holds_21 ic_2 ?_
      refine qv_iload_n F d_M_holds_22 1 rfl ?_
      refine qv_imul F d_M_holds_23 ?_
      refine qv_iload_n F d_M_holds_24 2 rfl ?_
      refine qv_iadd F d_M_holds_25 ?_
      refine ld_47 F (by omega) d_M_holds_26 ?_
      refine qv_goto F d_M_holds_27 rfl ?_
      exact qv_iret F hr hlk d_M_holds_31 (ei_of (by rw [hx, hy, tn_nI (by omega), tn_nI (by omega), Nat.mul_comm j 2]; rfl) rfl)
set_option maxRecDepth 100000 in
set_option maxHeartbeats 4000000 in
theorem c_M_isContext (l : Launch) (X : wX) (σ : sg) (x y : Int32) (hm : ∀ k, σ 43 k ≤ 8) : mt_ l X y_M_isContext w_M_isContext 1 [.ref (adr X 28), .int x, .int y] σ (ei_ (nI (iv_ (σ 43) x y).toNat) σ) := by
  refine mt_of (own := R_M) rfl pl_M (Nat.le_of_ble_eq_true rfl) ?_
  intro zp ze zs zm za zb zt zc F hr hlk
  refine qv_sub (L' := [(0, _), (1, _), (2, _)]) [0, 1, 2] rfl ?_
  refine qv_iload_n F d_M_isContext_0 2 rfl ?_
  refine qv_bipush F (nI 15) d_M_isContext_1 bic_15 ?_
  refine i_M_71i F (c_M_in l X σ y (nI 15) 16 (by decide)) (by decide) (Nat.le_of_ble_eq_true rfl) d_M_isContext_3 ?_
  refine qv_ifeqB F d_M_isContext_6 rfl (fun hb => ?_) (fun hb => ?_)
  ·
    refine qv_iconst F (nI 0) d_M_isContext_30 ic_0 ?_
    exact qv_zret F hr hlk (by first | exact Or.inl rfl | exact Or.inr rfl | exact bz_01 _) d_M_isContext_31 (ei_of (by unfold iv_; rw [hb]; rfl) rfl)
  ·
    have hy := hb
    obtain ⟨k, hk, rfl⟩ := wi_t (by decide) hb
    have q := hm (k / 4)
    refine qv_iload_n F d_M_isContext_9 1 rfl ?_
    refine qv_aload_n F d_M_isContext_10 0 rfl ?_
    refine g_M_53 F d_M_isContext_11 ?_
    refine qv_iload_n F d_M_isContext_14 2 rfl ?_
    refine qv_iconst F (nI 4) d_M_isContext_15 ic_4 ?_
    refine qv_idiv F d_M_isContext_16 (by omega) (by decide) (by decide) ?_
    refine ld_43 F (by omega) d_M_isContext_17 ?_
    refine qv_iconst F (nI 1) d_M_isContext_18 ic_1 ?_
    refine qv_isubI F d_M_isContext_19 ?_
    refine i_M_71i F (c_M_in l X σ x (nI (σ 43 (k / 4)) - nI 1) (σ 43 (k / 4)) (by rw [pk_sub_toInt (by omega) (by decide)]; rfl)) (by decide) (Nat.le_of_ble_eq_true rfl) d_M_isContext_20 ?_
    refine qv_ifeqB F d_M_isContext_23 rfl (fun hb => ?_) (fun hb => ?_)
    ·
      refine qv_iconst F (nI 0) d_M_isContext_30 ic_0 ?_
      exact qv_zret F hr hlk (by first | exact Or.inl rfl | exact Or.inr rfl | exact bz_01 _) d_M_isContext_31 (ei_of (by unfold iv_; rw [hy, tn_nI (by omega), hb]; rfl) rfl)
    ·
      refine qv_iconst F (nI 1) d_M_isContext_26 ic_1 ?_
      refine qv_goto F d_M_isContext_27 rfl ?_
      exact qv_zret F hr hlk (by first | exact Or.inl rfl | exact Or.inr rfl | exact bz_01 _) d_M_isContext_31 (ei_of (by unfold iv_; rw [hy, tn_nI (by omega), hb]; rfl) rfl)
set_option maxRecDepth 100000 in
set_option maxHeartbeats 4000000 in
theorem c_M_points (l : Launch) (X : wX) (σ : sg) (x y : Int32) (hm : ∀ k, σ 43 k ≤ 8) : mt_ l X y_M_points w_M_points 2 [.ref (adr X 28), .int x, .int y] σ (ei_ (if iv_ (σ 43) x y = true then nI (σ 46 (tn_ x * 16 + tn_ y)) else nI 0) σ) := by
  refine mt_of (own := R_M) rfl pl_M (Nat.le_of_ble_eq_true rfl) ?_
  intro zp ze zs zm za zb zt zc F hr hlk
  refine qv_sub (L' := [(0, _), (1, _), (2, _)]) [0, 1, 2] rfl ?_
  refine qv_aload_n F d_M_points_0 0 rfl ?_
  refine qv_iload_n F d_M_points_1 1 rfl ?_
  refine qv_iload_n F d_M_points_2 2 rfl ?_
  refine i_M_136i F (c_M_isContext l X σ x y hm) (by decide) (Nat.le_of_ble_eq_true rfl) d_M_points_3 ?_
  refine qv_ifeqB F d_M_points_6 rfl (fun hb => ?_) (fun hb => ?_)
  ·
    refine qv_iconst F (nI 0) d_M_points_23 ic_0 ?_
    exact qv_iret F hr hlk d_M_points_24 (ei_of (by rw [hb]; rfl) rfl)
  ·
    have hx := hb
    obtain ⟨j, k, hj, hk, rfl, rfl⟩ := iv_t hm hx
    refine qv_aload_n F d_M_points_9 0 rfl ?_
    refine g_M_62 F d_M_points_10 ?_
    refine qv_bipush F (nI 16) d_M_points_13 bic_16 ?_
    refine qv_iload_n F d_M_points_15 1 rfl ?_
    refine qv_imul F d_M_points_16 ?_
    refine qv_iload_n F d_M_points_17 2 rfl ?_
    refine qv_iadd F d_M_points_18 ?_
    refine ld_46 F (by omega) d_M_points_19 ?_
    refine qv_goto F d_M_points_20 rfl ?_
    exact qv_iret F hr hlk d_M_points_24 (ei_of (by rw [hx, tn_nI (by omega), tn_nI (by omega), Nat.mul_comm j 16]; rfl) rfl)
set_option maxRecDepth 100000 in
set_option maxHeartbeats 4000000 in
theorem c_M_alias (l : Launch) (X : wX) (σ : sg) (x y z w : Int32) (hm : ∀ k, σ 43 k ≤ 8) (h21 : ∀ k, σ 46 k < 256) : mt_ l X y_M_alias w_M_alias 2 [.ref (adr X 28), .int x, .int y, .int z, .int w] σ (ei_ (nI (iv_ (σ 43) x y && (iv_ (σ 43) z w && !decide (σ 46 (tn_ x * 16 + tn_ y) &&& σ 46 (tn_ z * 16 + tn_ w) = 0))).toNat) σ) := by
  refine mt_of (own := R_M) rfl pl_M (Nat.le_of_ble_eq_true rfl) ?_
  intro zp ze zs zm za zb zt zc F hr hlk
  refine qv_sub (L' := [(0, _), (1, _), (2, _), (3, _), (4, _)]) [0, 1, 2, 3, 4] rfl ?_
  refine qv_aload_n F d_M_alias_0 0 rfl ?_
  refine qv_iload_n F d_M_alias_1 1 rfl ?_
  refine qv_iload_n F d_M_alias_2 2 rfl ?_
  refine i_M_136i F (c_M_isContext l X σ x y hm) (by decide) (Nat.le_of_ble_eq_true rfl) d_M_alias_3 ?_
  refine qv_ifeqB F d_M_alias_6 rfl (fun hb => ?_) (fun hb => ?_)
  ·
    refine qv_iconst F (nI 0) d_M_alias_50 ic_0 ?_
    exact qv_zret F hr hlk (by first | exact Or.inl rfl | exact Or.inr rfl | exact bz_01 _) d_M_alias_51 (ei_of (by rw [hb]; rfl) rfl)
  ·
    have hx := hb
    refine qv_aload_n F d_M_alias_9 0 rfl ?_
    refine qv_iload_n F d_M_alias_10 3 rfl ?_
    refine qv_iload F d_M_alias_11 4 rfl ?_
    refine i_M_136i F (c_M_isContext l X σ z w hm) (by decide) (Nat.le_of_ble_eq_true rfl) d_M_alias_13 ?_
    refine qv_ifeqB F d_M_alias_16 rfl (fun hb => ?_) (fun hb => ?_)
    ·
      refine qv_iconst F (nI 0) d_M_alias_50 ic_0 ?_
      exact qv_zret F hr hlk (by first | exact Or.inl rfl | exact Or.inr rfl | exact bz_01 _) d_M_alias_51 (ei_of (by rw [hx, hb]; rfl) rfl)
    ·
      have hz := hb
      obtain ⟨j, k, hj, hk, rfl, rfl⟩ := iv_t hm hx
      obtain ⟨a, b, ha, hb1, rfl, rfl⟩ := iv_t hm hz
      have q := and_256 (a := σ 46 (16 * j + k)) (h21 (16 * a + b))
      refine qv_aload_n F d_M_alias_19 0 rfl ?_
      refine g_M_62 F d_M_alias_20 ?_
      refine qv_bipush F (nI 16) d_M_alias_23 bic_16 ?_
      refine qv_iload_n F d_M_alias_25 1 rfl ?_
      refine qv_imul F d_M_alias_26 ?_
      refine qv_iload_n F d_M_alias_27 2 rfl ?_
      refine qv_iadd F d_M_alias_28 ?_
      refine ld_46 F (by omega) d_M_alias_29 ?_
      refine qv_aload_n F d_M_alias_30 0 rfl ?_
      refine g_M_62 F d_M_alias_31 ?_
      refine qv_bipush F (nI 16) d_M_alias_34 bic_16 ?_
      refine qv_iload_n F d_M_alias_36 3 rfl ?_
      refine qv_imul F d_M_alias_37 ?_
      refine qv_iload F d_M_alias_38 4 rfl ?_
      refine qv_iadd F d_M_alias_40 ?_
      refine ld_46 F (by omega) d_M_alias_41 ?_
      refine qv_iand F d_M_alias_42 ?_
      refine qv_ifeq F d_M_alias_43 rfl (by omega) (fun hb => ?_) (fun hb => ?_)
      ·
        refine qv_iconst F (nI 0) d_M_alias_50 ic_0 ?_
        exact qv_zret F hr hlk (by first | exact Or.inl rfl | exact Or.inr rfl | exact bz_01 _) d_M_alias_51 (ei_of (by rw [hx, hz, tn_nI (by omega), tn_nI (by omega), tn_nI (by omega), tn_nI (by omega), Nat.mul_comm j 16, Nat.mul_comm a 16, decide_eq_true hb]; rfl) rfl)
      ·
        refine qv_iconst F (nI 1) d_M_alias_46 ic_1 ?_
        refine qv_goto F d_M_alias_47 rfl ?_
        exact qv_zret F hr hlk (by first | exact Or.inl rfl | exact Or.inr rfl | exact bz_01 _) d_M_alias_51 (ei_of (by rw [hx, hz, tn_nI (by omega), tn_nI (by omega), tn_nI (by omega), tn_nI (by omega), Nat.mul_comm j 16, Nat.mul_comm a 16, decide_eq_false hb]; rfl) rfl)
set_option maxRecDepth 100000 in
set_option maxHeartbeats 4000000 in
theorem c_M_context (l : Launch) (X : wX) (σ : sg) (x y : Int32) (hn : σ 28 17 ≤ 8) (h11 : ∀ k, k < σ 28 17 → σ 45 k < 4) (hm : ∀ k, σ 43 k ≤ 8) : mt_ l X y_M_context w_M_context 1 [.ref (adr X 28), .int x, .int y] σ (ei_ (cx_ (σ 43) (σ 44) (σ 45) (σ 28 17) x y) σ) := by
  refine mt_of (own := R_M) rfl pl_M (Nat.le_of_ble_eq_true rfl) ?_
  intro zp ze zs zm za zb zt zc F hr hlk
  refine qv_sub (L' := [(0, _), (1, _), (2, _)]) [0, 1, 2] rfl ?_
  refine qv_iload_n F d_M_context_0 1 rfl ?_
  refine qv_aload_n F d_M_context_1 0 rfl ?_
  refine g_M_127 F d_M_context_2 ?_
  refine qv_iconst F (nI 1) d_M_context_5 ic_1 ?_
  refine qv_isubI F d_M_context_6 ?_
  refine i_M_71i F (c_M_in l X σ x (nI (σ 28 17) - nI 1) (σ 28 17) (by rw [pk_sub_toInt (by omega) (by decide)]; rfl)) (by decide) (Nat.le_of_ble_eq_true rfl) d_M_context_7 ?_
  refine qv_ifeqB F d_M_context_10 rfl (fun hb => ?_) (fun hb => ?_)
  ·
    refine qv_iconst F (-1) d_M_context_44 ic_m1 ?_
    exact qv_iret F hr hlk d_M_context_45 (ei_of (by unfold cx_; rw [hb]; rfl) rfl)
  ·
    have hx := hb
    obtain ⟨j, hj, rfl⟩ := wi_t (by omega) hb
    have q11 := h11 j hj
    have q17 := hm (σ 45 j)
    refine qv_iload_n F d_M_context_13 2 rfl ?_
    refine qv_aload_n F d_M_context_14 0 rfl ?_
    refine g_M_53 F d_M_context_15 ?_
    refine qv_aload_n F d_M_context_18 0 rfl ?_
    refine g_M_59 F d_M_context_19 ?_
    refine qv_iload_n F d_M_context_22 1 rfl ?_
    refine ld_45 F (by omega) d_M_context_23 ?_
    refine ld_43 F (by omega) d_M_context_24 ?_
    refine qv_iconst F (nI 1) d_M_context_25 ic_1 ?_
    refine qv_isubI F d_M_context_26 ?_
    refine i_M_71i F (c_M_in l X σ y (nI (σ 43 (σ 45 j)) - nI 1) (σ 43 (σ 45 j)) (by rw [pk_sub_toInt (by omega) (by decide)]; rfl)) (by decide) (Nat.le_of_ble_eq_true rfl) d_M_context_27 ?_
    refine qv_ifeqB F d_M_context_30 rfl (fun hb => ?_) (fun hb => ?_)
    ·
      refine qv_iconst F (-1) d_M_context_44 ic_m1 ?_
      exact qv_iret F hr hlk d_M_context_45 (ei_of (by unfold cx_; rw [hx, tn_nI (by omega), hb]; rfl) rfl)
    ·
      have hy := hb
      obtain ⟨k, hk, rfl⟩ := wi_t (by omega) hb
      refine qv_aload_n F d_M_context_33 0 rfl ?_
      refine g_M_56 F d_M_context_34 ?_
      refine qv_iload_n F d_M_context_37 1 rfl ?_
      refine ld_44 F (by omega) d_M_context_38 ?_
      refine qv_iload_n F d_M_context_39 2 rfl ?_
      refine qv_iadd F d_M_context_40 ?_
      refine qv_goto F d_M_context_41 rfl ?_
      exact qv_iret F hr hlk d_M_context_45 (ei_of (by unfold cx_; rw [hx, tn_nI (by omega), hy, tn_nI (by omega)]; rfl) rfl)
end
section
theorem sb_cpy0' {f g : Nat → Nat} {n j : Nat} (h : j < n) : va_cpy f g 0 0 n j = f j := by
  unfold va_cpy
  rw [if_pos ⟨Nat.zero_le _, by omega⟩]
  exact congrArg f (by omega)
section CW2
variable {p : Program} {l : Launch} {e : Env} {R : Room} {s : State} {m : MethodId} {args : Array Value} {below : List Frame} {meth : Method} {c : Code} {Q : State → Prop}
variable {X : wX} {nL : Nat} {L : List (Nat × Value)} {σ : sg} {pc : Nat} {st : List Value} {cc : ByteArray} {own : String}
theorem qv_iushr (F : fx_ p s m args c cc nL own X) {x y : Int32} (hd : decode cc pc = .ok (.iushr, 1)) (k : vv_ p l e R s m args below meth c Q X nL L σ (pc + 1) (.int ((x.toUInt32 >>> (y.toUInt32 &&& Int32.toUInt32 31)).toInt32) :: st)) : vv_ p l e R s m args below meth c Q X nL L σ pc (.int y :: .int x :: st) :=
  fun H locs ls h hP hS => lv_iushr (fx_x F) (fx_b F) hd rfl (k H locs ls h hP hS)
theorem qv_iandI (F : fx_ p s m args c cc nL own X) {x y : Int32} (hd : decode cc pc = .ok (.iand, 1)) (k : vv_ p l e R s m args below meth c Q X nL L σ (pc + 1) (.int (x &&& y) :: st)) : vv_ p l e R s m args below meth c Q X nL L σ pc (.int y :: .int x :: st) :=
  fun H locs ls h hP hS => lv_iand (fx_x F) (fx_b F) hd (k H locs ls h hP hS)
theorem qv_ldcw (F : fx_ p s m args c cc nL own X) {index : Nat} (v : Int32) (hc : Cond.constant own index v ∈ ak_) (hd : decode cc pc = .ok (.ldc_w index, 3)) (k : vv_ p l e R s m args below meth c Q X nL L σ (pc + 3) (.int v :: st)) : vv_ p l e R s m args below meth c Q X nL L σ pc st :=
  fun H locs ls h hP hS => lv_ldcw (fx_x F) (fx_b F) F.1.2.2.2.1 (fx_t F hc) hd (k H locs ls h hP hS)
theorem qv_max (F : fx_ p s m args c cc nL own X) {index a b : Nat} (ha : a < 2 ^ 31) (hb : b < 2 ^ 31) (hl : Cond.methodLink own index Lib.Math.max.name ∈ ak_) (hs : Cond.static Lib.Math.max.name ∈ ak_) (hi : Cond.initialized "java/lang/Math" ∈ ak_) (hc : Cond.code Lib.Math.max.name Lib.Math.max.code 2 (some .int) ∈ ak_) (hf : 1 ≤ R.frames) (hlo : (st.map fun v => v.category).sum + 13 ≤ R.locals) (hd : decode cc pc = .ok (.invokestatic index, 3)) (k : vv_ p l e R s m args below meth c Q X nL L σ (pc + 3) (.int (nI (max a b)) :: st)) : vv_ p l e R s m args below meth c Q X nL L σ pc (.int (nI b) :: .int (nI a) :: st) := by
  intro H locs ls h hP hS
  refine va_mmax (fx_x F) (fx_b F) (F.1.2.2.1.trans h.1.symm) F.1.2.2.2.1 (fx_t F hl) (fx_t F hs) (fx_t F hi) (fx_t F hc) hf hlo (Nat.zero_le _) (Nat.zero_le _) hd ?_
  have e : (if nI a < nI b then nI b else nI a) = nI (max a b) := by
    by_cases q : a < b
    · rw [if_pos ((nI_ltI ha hb).mpr q), Nat.max_eq_right (by omega)]
    · rw [if_neg (fun z => q ((nI_ltI ha hb).mp z)), Nat.max_eq_left (by omega)]
  rw [e]
  exact k H locs ls h hP hS
/-- a whole array of ints laid over another -/
theorem qv_acopy (F : fx_ p s m args c cc nL own X) {index : Nat} (q0 q1 : Nat) {n : Nat} (hq0 : dz_[q0]? = some (.inl (false, n))) (hq1 : dz_[q1]? = some (.inl (false, n))) (hn : n < 2 ^ 31) (hl : Cond.methodLink own index arraycopyName ∈ ak_) (hna : Cond.native arraycopyName ∈ ak_) (hs : Cond.static arraycopyName ∈ ak_) (hi : Cond.initialized "java/lang/System" ∈ ak_) (hf : 1 ≤ R.frames) (hlo : (st.map fun v => v.category).sum + (nativeFrameWords "java/lang/System" "arraycopy" 5 + 11) ≤ R.locals) (hd : decode cc pc = .ok (.invokestatic index, 3)) (k : vv_ p l e R s m args below meth c Q X nL L (ua σ q1 (σ q0)) (pc + 3) st) : vv_ p l e R s m args below meth c Q X nL L σ pc (.int (nI n) :: .int (nI 0) :: .ref (adr X q1) :: .int (nI 0) :: .ref (adr X q0) :: st) := by
  intro H locs ls h hP hS
  have z0 : (nI 0).toNatClampNeg = 0 := nI_clamp (by decide)
  refine va_copyi (fx_x F) (fx_b F) (F.1.2.2.1.trans h.1.symm) F.1.2.2.2.1 (fx_t F hl) (fx_t F hna) (fx_t F hs) (fx_t F hi) F.2.1 hP (wd_D F.2.2.1) hS q0 q1 0 0 (wd_at hq0) (wd_at hq1) rfl rfl rfl (nI_pos (by decide)) (nI_pos (by decide)) (nI_pos hn) (by rw [z0, nI_clamp hn]; omega) (by rw [z0, nI_clamp hn]; omega) (fun _ _ => rfl) hf hlo hd (fun H1 locs1 hP1 _ hS1 => ?_)
  rw [z0, nI_clamp hn] at hP1
  have e : va_cpy (fun j => nI (σ q0 j)) (fun j => nI (σ q1 j)) 0 0 n = fun j => nI (va_cpy (σ q0) (σ q1) 0 0 n j) := by
    funext j
    unfold va_cpy
    by_cases q : 0 ≤ j ∧ j < 0 + n
    · rw [if_pos q, if_pos q]
    · rw [if_neg q, if_neg q]
  rw [e] at hP1
  have hP2 : va_P X.1 cl_ (wd_ X (ua σ q1 (va_cpy (σ q0) (σ q1) 0 0 n))) H1 := wd_set (X := X) (σ := σ) (k := q1) (d := .inl (false, n)) (g := va_cpy (σ q0) (σ q1) 0 0 n) hq1 ▸ hP1
  have hP3 := wd_ext (X := X) (g := σ q0) hq1 (fun j hj => by rw [ua_eq, sb_cpy0' hj]) hP2
  rw [ua_ua] at hP3
  exact k H1 locs1 ls h hP3 hS1
theorem qv_gets (F : fx_ p s m args c cc nL own X) {index : Nat} {C n d : String} {v : Value} (hZ : va_Z C n d v (aw_ X) s s.heap) (hl : Cond.fieldLink own index C n d ∈ ak_) (hd : decode cc pc = .ok (.getstatic index, 3)) (k : vv_ p l e R s m args below meth c Q X nL L σ (pc + 3) (v :: st)) : vv_ p l e R s m args below meth c Q X nL L σ pc st :=
  fun H locs ls h hP hS => va_gets (fx_x F) (fx_b F) hZ hS F.1.2.2.2.1 (fx_t F hl) (fun _ h => h) hd (k H locs ls h hP hS)
theorem qv_tald (F : fx_ p s m args c cc nL own X) {t N i : Nat} {f : Nat → Nat} (hT : va_T .int t N (fun j => .int (nI (f j))) (aw_ X) s s.heap) (hi : i < N) (hN : N < 2 ^ 31) (hd : decode cc pc = .ok (.iaload, 1)) (k : vv_ p l e R s m args below meth c Q X nL L σ (pc + 1) (.int (nI (f i)) :: st)) : vv_ p l e R s m args below meth c Q X nL L σ pc (.int (nI i) :: .ref t :: st) :=
  fun H locs ls h hP hS => va_ti (v := .int (nI (f i))) (fx_x F) (fx_b F) hT hS (vp_in_nI hi hN) (by show Value.int (nI (f (nI i).toNatClampNeg)) = _; rw [nI_clamp (by omega)]) hd (k H locs ls h hP hS)
end CW2
end
section
abbrev b_I_bitCount : ByteArray := prog_8_method_49_code
def y_I_bitCount : MethodName := ⟨R_I, "bitCount", "(I)I"⟩
abbrev w_I_bitCount : List Cond := wz_ y_I_bitCount b_I_bitCount 1 (some .int)
abbrev b_T_countBits : ByteArray := prog_5_method_6_code
def y_T_countBits : MethodName := ⟨R_T, "countBits", "([I)I"⟩
abbrev w_T_countBits : List Cond := wz_ y_T_countBits b_T_countBits 6 (some .int)
abbrev b_T_countHolds : ByteArray := prog_5_method_5_code
def y_T_countHolds : MethodName := ⟨R_T, "countHolds", "()I"⟩
abbrev w_T_countHolds : List Cond := wz_ y_T_countHolds b_T_countHolds 1 (some .int)
abbrev b_T_countPoints : ByteArray := prog_5_method_4_code
def y_T_countPoints : MethodName := ⟨R_T, "countPoints", "()I"⟩
abbrev w_T_countPoints : List Cond := wz_ y_T_countPoints b_T_countPoints 1 (some .int)
end
section
theorem d_I_bitCount_0 : decode b_I_bitCount 0 = .ok (.iload_n 0, 1) := by decide +kernel
theorem d_I_bitCount_1 : decode b_I_bitCount 1 = .ok (.iload_n 0, 1) := by decide +kernel
theorem d_I_bitCount_2 : decode b_I_bitCount 2 = .ok (.iconst 1, 1) := by decide +kernel
theorem d_I_bitCount_3 : decode b_I_bitCount 3 = .ok (.iushr, 1) := by decide +kernel
theorem d_I_bitCount_4 : decode b_I_bitCount 4 = .ok (.ldc_w 265, 3) := by decide +kernel
theorem d_I_bitCount_7 : decode b_I_bitCount 7 = .ok (.iand, 1) := by decide +kernel
theorem d_I_bitCount_8 : decode b_I_bitCount 8 = .ok (.isub, 1) := by decide +kernel
theorem d_I_bitCount_9 : decode b_I_bitCount 9 = .ok (.istore_n 0, 1) := by decide +kernel
theorem d_I_bitCount_10 : decode b_I_bitCount 10 = .ok (.iload_n 0, 1) := by decide +kernel
theorem d_I_bitCount_11 : decode b_I_bitCount 11 = .ok (.ldc_w 266, 3) := by decide +kernel
theorem d_I_bitCount_14 : decode b_I_bitCount 14 = .ok (.iand, 1) := by decide +kernel
theorem d_I_bitCount_15 : decode b_I_bitCount 15 = .ok (.iload_n 0, 1) := by decide +kernel
theorem d_I_bitCount_16 : decode b_I_bitCount 16 = .ok (.iconst 2, 1) := by decide +kernel
theorem d_I_bitCount_17 : decode b_I_bitCount 17 = .ok (.iushr, 1) := by decide +kernel
theorem d_I_bitCount_18 : decode b_I_bitCount 18 = .ok (.ldc_w 266, 3) := by decide +kernel
theorem d_I_bitCount_21 : decode b_I_bitCount 21 = .ok (.iand, 1) := by decide +kernel
theorem d_I_bitCount_22 : decode b_I_bitCount 22 = .ok (.iadd, 1) := by decide +kernel
theorem d_I_bitCount_23 : decode b_I_bitCount 23 = .ok (.istore_n 0, 1) := by decide +kernel
theorem d_I_bitCount_24 : decode b_I_bitCount 24 = .ok (.iload_n 0, 1) := by decide +kernel
theorem d_I_bitCount_25 : decode b_I_bitCount 25 = .ok (.iload_n 0, 1) := by decide +kernel
theorem d_I_bitCount_26 : decode b_I_bitCount 26 = .ok (.iconst 4, 1) := by decide +kernel
theorem d_I_bitCount_27 : decode b_I_bitCount 27 = .ok (.iushr, 1) := by decide +kernel
theorem d_I_bitCount_28 : decode b_I_bitCount 28 = .ok (.iadd, 1) := by decide +kernel
theorem d_I_bitCount_29 : decode b_I_bitCount 29 = .ok (.ldc_w 267, 3) := by decide +kernel
theorem d_I_bitCount_32 : decode b_I_bitCount 32 = .ok (.iand, 1) := by decide +kernel
theorem d_I_bitCount_33 : decode b_I_bitCount 33 = .ok (.istore_n 0, 1) := by decide +kernel
theorem d_I_bitCount_34 : decode b_I_bitCount 34 = .ok (.iload_n 0, 1) := by decide +kernel
theorem d_I_bitCount_35 : decode b_I_bitCount 35 = .ok (.iload_n 0, 1) := by decide +kernel
theorem d_I_bitCount_36 : decode b_I_bitCount 36 = .ok (.bipush 8, 2) := by decide +kernel
theorem d_I_bitCount_38 : decode b_I_bitCount 38 = .ok (.iushr, 1) := by decide +kernel
theorem d_I_bitCount_39 : decode b_I_bitCount 39 = .ok (.iadd, 1) := by decide +kernel
theorem d_I_bitCount_40 : decode b_I_bitCount 40 = .ok (.istore_n 0, 1) := by decide +kernel
theorem d_I_bitCount_41 : decode b_I_bitCount 41 = .ok (.iload_n 0, 1) := by decide +kernel
theorem d_I_bitCount_42 : decode b_I_bitCount 42 = .ok (.iload_n 0, 1) := by decide +kernel
theorem d_I_bitCount_43 : decode b_I_bitCount 43 = .ok (.bipush 16, 2) := by decide +kernel
theorem d_I_bitCount_45 : decode b_I_bitCount 45 = .ok (.iushr, 1) := by decide +kernel
theorem d_I_bitCount_46 : decode b_I_bitCount 46 = .ok (.iadd, 1) := by decide +kernel
theorem d_I_bitCount_47 : decode b_I_bitCount 47 = .ok (.istore_n 0, 1) := by decide +kernel
theorem d_I_bitCount_48 : decode b_I_bitCount 48 = .ok (.iload_n 0, 1) := by decide +kernel
theorem d_I_bitCount_49 : decode b_I_bitCount 49 = .ok (.bipush 63, 2) := by decide +kernel
theorem d_I_bitCount_51 : decode b_I_bitCount 51 = .ok (.iand, 1) := by decide +kernel
theorem d_I_bitCount_52 : decode b_I_bitCount 52 = .ok (.ireturn, 1) := by decide +kernel
theorem d_T_countBits_0 : decode b_T_countBits 0 = .ok (.iconst 0, 1) := by decide +kernel
theorem d_T_countBits_1 : decode b_T_countBits 1 = .ok (.istore_n 1, 1) := by decide +kernel
theorem d_T_countBits_2 : decode b_T_countBits 2 = .ok (.aload_n 0, 1) := by decide +kernel
theorem d_T_countBits_3 : decode b_T_countBits 3 = .ok (.astore_n 2, 1) := by decide +kernel
theorem d_T_countBits_4 : decode b_T_countBits 4 = .ok (.aload_n 2, 1) := by decide +kernel
theorem d_T_countBits_5 : decode b_T_countBits 5 = .ok (.arraylength, 1) := by decide +kernel
theorem d_T_countBits_6 : decode b_T_countBits 6 = .ok (.istore_n 3, 1) := by decide +kernel
theorem d_T_countBits_7 : decode b_T_countBits 7 = .ok (.iconst 0, 1) := by decide +kernel
theorem d_T_countBits_8 : decode b_T_countBits 8 = .ok (.istore 4, 2) := by decide +kernel
theorem d_T_countBits_10 : decode b_T_countBits 10 = .ok (.iload 4, 2) := by decide +kernel
theorem d_T_countBits_12 : decode b_T_countBits 12 = .ok (.iload_n 3, 1) := by decide +kernel
theorem d_T_countBits_13 : decode b_T_countBits 13 = .ok (.if_icmp .ge 23, 3) := by decide +kernel
theorem d_T_countBits_16 : decode b_T_countBits 16 = .ok (.aload_n 2, 1) := by decide +kernel
theorem d_T_countBits_17 : decode b_T_countBits 17 = .ok (.iload 4, 2) := by decide +kernel
theorem d_T_countBits_19 : decode b_T_countBits 19 = .ok (.iaload, 1) := by decide +kernel
theorem d_T_countBits_20 : decode b_T_countBits 20 = .ok (.istore 5, 2) := by decide +kernel
theorem d_T_countBits_22 : decode b_T_countBits 22 = .ok (.iload_n 1, 1) := by decide +kernel
theorem d_T_countBits_23 : decode b_T_countBits 23 = .ok (.iload 5, 2) := by decide +kernel
theorem d_T_countBits_25 : decode b_T_countBits 25 = .ok (.invokestatic 29, 3) := by decide +kernel
theorem d_T_countBits_28 : decode b_T_countBits 28 = .ok (.iadd, 1) := by decide +kernel
theorem d_T_countBits_29 : decode b_T_countBits 29 = .ok (.istore_n 1, 1) := by decide +kernel
theorem d_T_countBits_30 : decode b_T_countBits 30 = .ok (.iinc 4 1, 3) := by decide +kernel
theorem d_T_countBits_33 : decode b_T_countBits 33 = .ok (.goto (-23), 3) := by decide +kernel
theorem d_T_countBits_36 : decode b_T_countBits 36 = .ok (.iload_n 1, 1) := by decide +kernel
theorem d_T_countBits_37 : decode b_T_countBits 37 = .ok (.ireturn, 1) := by decide +kernel
theorem d_T_countHolds_0 : decode b_T_countHolds 0 = .ok (.aload_n 0, 1) := by decide +kernel
theorem d_T_countHolds_1 : decode b_T_countHolds 1 = .ok (.getfield 15, 3) := by decide +kernel
theorem d_T_countHolds_4 : decode b_T_countHolds 4 = .ok (.invokestatic 25, 3) := by decide +kernel
theorem d_T_countHolds_7 : decode b_T_countHolds 7 = .ok (.ireturn, 1) := by decide +kernel
theorem d_T_countPoints_0 : decode b_T_countPoints 0 = .ok (.aload_n 0, 1) := by decide +kernel
theorem d_T_countPoints_1 : decode b_T_countPoints 1 = .ok (.getfield 11, 3) := by decide +kernel
theorem d_T_countPoints_4 : decode b_T_countPoints 4 = .ok (.invokestatic 25, 3) := by decide +kernel
theorem d_T_countPoints_7 : decode b_T_countPoints 7 = .ok (.ireturn, 1) := by decide +kernel
end
section
section RW
variable {own : String} {p : Program} {l : Launch} {e : Env} {R : Room} {s : State} {m : MethodId} {args : Array Value} {below : List Frame} {meth : Method} {c : Code} {Q : State → Prop} {X : wX} {nL : Nat} {L : List (Nat × Value)} {σ : sg} {pc : Nat} {st : List Value} {cc : ByteArray}
theorem bic_63 : (Int8.ofInt (63)).toInt32 = nI 63 := by decide
theorem i_T_25i (F : fx_ p s m args c cc nL R_T X) {v0 : Value} {rest : List Value} {d : Nat} {z : Int32} {τ : sg} (hM : mt_ l X y_T_countBits w_T_countBits d [v0] σ (ei_ z τ)) (hR : d + 1 ≤ R.frames ∧ 8 + (6 + 11) + 30 * d ≤ R.locals) (hw : (rest.map fun v => v.category).sum ≤ 8) (hd : decode cc pc = .ok (.invokestatic 25, 3)) (k : vv_ p l e R s m args below meth c Q X nL L τ (pc + 3) (.int z :: rest)) : vv_ p l e R s m args below meth c Q X nL L σ pc (v0 :: rest) :=
  qv_callS F (maxL := 6) (ret := (some .int)) (n := 1) (as := [v0]) (rest := rest) (by decide +kernel) (by decide +kernel) (by decide +kernel) (by decide +kernel) (by decide +kernel) hM rfl hR hw hd (fun r τ' hp => by obtain ⟨rfl, rfl⟩ := hp; exact k)
theorem i_T_29i (F : fx_ p s m args c cc nL R_T X) {v0 : Value} {rest : List Value} {d : Nat} {z : Int32} {τ : sg} (hM : mt_ l X y_I_bitCount w_I_bitCount d [v0] σ (ei_ z τ)) (hR : d + 1 ≤ R.frames ∧ 8 + (1 + 11) + 30 * d ≤ R.locals) (hw : (rest.map fun v => v.category).sum ≤ 8) (hd : decode cc pc = .ok (.invokestatic 29, 3)) (k : vv_ p l e R s m args below meth c Q X nL L τ (pc + 3) (.int z :: rest)) : vv_ p l e R s m args below meth c Q X nL L σ pc (v0 :: rest) :=
  qv_callS F (maxL := 1) (ret := (some .int)) (n := 1) (as := [v0]) (rest := rest) (by decide +kernel) (by decide +kernel) (by decide +kernel) (by decide +kernel) (by decide +kernel) hM rfl hR hw hd (fun r τ' hp => by obtain ⟨rfl, rfl⟩ := hp; exact k)
end RW
end
section
/-! the JDK's bitCount, and the sums of bits -/
def ush_ (x y : Int32) : Int32 := (x.toUInt32 >>> (y.toUInt32 &&& Int32.toUInt32 31)).toInt32
def bc1_ (x : Int32) : Int32 := x - (ush_ x (nI 1) &&& 1431655765)
def bc2_ (x : Int32) : Int32 := (x &&& 858993459) + (ush_ x (nI 2) &&& 858993459)
def bc3_ (x : Int32) : Int32 := (x + ush_ x (nI 4)) &&& 252645135
def bc4_ (x : Int32) : Int32 := x + ush_ x (nI 8)
def bc5_ (x : Int32) : Int32 := x + ush_ x (nI 16)
theorem bc_eq : ∀ x, x < 256 → bc5_ (bc4_ (bc3_ (bc2_ (bc1_ (nI x))))) &&& nI 63 = nI (pc_ x) := by decide +kernel
set_option maxRecDepth 100000 in
set_option maxHeartbeats 4000000 in
theorem c_I_bitCount (l : Launch) (X : wX) (σ : sg) (x : Nat) (hx : x < 256) : mt_ l X y_I_bitCount w_I_bitCount 0 [.int (nI x)] σ (ei_ (nI (pc_ x)) σ) := by
  refine mt_of (own := R_I) rfl pl_I (Nat.le_of_ble_eq_true rfl) ?_
  intro zp ze zs zm za zb zt zc F hr hlk
  refine qv_sub (L' := [(0, _)]) [0] rfl ?_
  refine qv_iload_n F d_I_bitCount_0 0 rfl ?_
  refine qv_iload_n F d_I_bitCount_1 0 rfl ?_
  refine qv_iconst F (nI 1) d_I_bitCount_2 ic_1 ?_
  refine qv_iushr F d_I_bitCount_3 ?_
  refine qv_ldcw F 1431655765 (by decide +kernel) d_I_bitCount_4 ?_
  refine qv_iandI F d_I_bitCount_7 ?_
  refine qv_isubI F d_I_bitCount_8 ?_
  refine qv_istore_n (L' := [(0, .int (bc1_ (nI x)))]) F d_I_bitCount_9 (by decide) rfl ?_
  generalize hy : bc1_ (nI x) = y
  refine qv_iload_n F d_I_bitCount_10 0 rfl ?_
  refine qv_ldcw F 858993459 (by decide +kernel) d_I_bitCount_11 ?_
  refine qv_iandI F d_I_bitCount_14 ?_
  refine qv_iload_n F d_I_bitCount_15 0 rfl ?_
  refine qv_iconst F (nI 2) d_I_bitCount_16 ic_2 ?_
  refine qv_iushr F d_I_bitCount_17 ?_
  refine qv_ldcw F 858993459 (by decide +kernel) d_I_bitCount_18 ?_
  refine qv_iandI F d_I_bitCount_21 ?_
  refine qv_iaddI F d_I_bitCount_22 ?_
  refine qv_istore_n (L' := [(0, .int (bc2_ y))]) F d_I_bitCount_23 (by decide) rfl ?_
  generalize hz : bc2_ y = z
  refine qv_iload_n F d_I_bitCount_24 0 rfl ?_
  refine qv_iload_n F d_I_bitCount_25 0 rfl ?_
  refine qv_iconst F (nI 4) d_I_bitCount_26 ic_4 ?_
  refine qv_iushr F d_I_bitCount_27 ?_
  refine qv_iaddI F d_I_bitCount_28 ?_
  refine qv_ldcw F 252645135 (by decide +kernel) d_I_bitCount_29 ?_
  refine qv_iandI F d_I_bitCount_32 ?_
  refine qv_istore_n (L' := [(0, .int (bc3_ z))]) F d_I_bitCount_33 (by decide) rfl ?_
  generalize hw : bc3_ z = w
  refine qv_iload_n F d_I_bitCount_34 0 rfl ?_
  refine qv_iload_n F d_I_bitCount_35 0 rfl ?_
  refine qv_bipush F (nI 8) d_I_bitCount_36 bic_8 ?_
  refine qv_iushr F d_I_bitCount_38 ?_
  refine qv_iaddI F d_I_bitCount_39 ?_
  refine qv_istore_n (L' := [(0, .int (bc4_ w))]) F d_I_bitCount_40 (by decide) rfl ?_
  generalize hv : bc4_ w = v
  refine qv_iload_n F d_I_bitCount_41 0 rfl ?_
  refine qv_iload_n F d_I_bitCount_42 0 rfl ?_
  refine qv_bipush F (nI 16) d_I_bitCount_43 bic_16 ?_
  refine qv_iushr F d_I_bitCount_45 ?_
  refine qv_iaddI F d_I_bitCount_46 ?_
  refine qv_istore_n (L' := [(0, .int (bc5_ v))]) F d_I_bitCount_47 (by decide) rfl ?_
  refine qv_iload_n F d_I_bitCount_48 0 rfl ?_
  refine qv_bipush F (nI 63) d_I_bitCount_49 bic_63 ?_
  refine qv_iandI F d_I_bitCount_51 ?_
  exact qv_iret F hr hlk d_I_bitCount_52 (ei_of (by rw [← hv, ← hw, ← hz, ← hy]; exact bc_eq x hx) rfl)
def sp_ (f : Nat → Nat) (n : Nat) : Nat := sm_ (fun k => pc_ (f k)) n
set_option maxRecDepth 100000 in
set_option maxHeartbeats 4000000 in
theorem c_T_countBits (l : Launch) (X : wX) (σ : sg) (q n : Nat) (hq : dz_[q]? = some (.inl (false, n))) (hnq : n < 2 ^ 31) (h : ∀ k, σ q k < 256) : mt_ l X y_T_countBits w_T_countBits 1 [.ref (adr X q)] σ (ei_ (nI (sp_ (σ q) n)) σ) := by
  refine mt_of (own := R_T) rfl pl_T (Nat.le_of_ble_eq_true rfl) ?_
  intro zp ze zs zm za zb zt zc F hr hlk
  refine qv_sub (L' := [(0, _)]) [0] rfl ?_
  refine qv_iconst F (nI 0) d_T_countBits_0 ic_0 ?_
  refine qv_istore_n (L' := [(1, _), (0, _)]) F d_T_countBits_1 (by decide) rfl ?_
  refine qv_aload_n F d_T_countBits_2 1 rfl ?_
  refine qv_astore_n (L' := [(2, _), (1, _), (0, _)]) F d_T_countBits_3 (by decide) rfl ?_
  refine qv_aload_n F d_T_countBits_4 0 rfl ?_
  refine qv_alen F q hq d_T_countBits_5 ?_
  refine qv_istore_n (L' := [(3, _), (2, _), (1, _), (0, _)]) F d_T_countBits_6 (by decide) rfl ?_
  refine qv_iconst F (nI 0) d_T_countBits_7 ic_0 ?_
  refine qv_istore (L' := [(4, _), (3, _), (2, _), (1, _), (0, _)]) F d_T_countBits_8 (by decide) rfl ?_
  have lp := lu_up (fun i (_ : Unit) => vv_ zp l ze (rr_ 1) zs zm za zb zt zc (MQ zb (mq_ X (ei_ (nI (sp_ (σ q) n)) σ)) za zs 0 0 (aw_ X)) X 6 [(4, .int (nI i)), (3, .int (nI n)), (2, .ref (adr X q)), (1, .int (nI (sp_ (σ q) i))), (0, .ref (adr X q))] σ 10 []) (fun _ _ => True) n ?_ ?_ 0 () (Nat.zero_le _) trivial
  · exact lp
  · intro _ _
    refine qv_iload F d_T_countBits_10 0 rfl ?_
    refine qv_iload_n F d_T_countBits_12 1 rfl ?_
    refine qv_icmpge F d_T_countBits_13 rfl (by omega) (by omega) (fun hb => ?_) (fun hb => ?_)
    ·
      refine qv_iload_n F d_T_countBits_36 3 rfl ?_
      exact qv_iret F hr hlk d_T_countBits_37 (ei_of rfl rfl)
    ·
      omega
  · intro i _ hi _ ih
    refine qv_iload F d_T_countBits_10 0 rfl ?_
    refine qv_iload_n F d_T_countBits_12 1 rfl ?_
    refine qv_icmpge F d_T_countBits_13 rfl (by omega) (by omega) (fun hb => ?_) (fun hb => ?_)
    ·
      omega
    ·
      refine qv_aload_n F d_T_countBits_16 2 rfl ?_
      refine qv_iload F d_T_countBits_17 0 rfl ?_
      refine qv_iald F q hq hi hnq d_T_countBits_19 ?_
      refine qv_istore (L' := [(5, _), (4, _), (3, _), (2, _), (1, _), (0, _)]) F d_T_countBits_20 (by decide) rfl ?_
      refine qv_iload_n F d_T_countBits_22 4 rfl ?_
      refine qv_iload F d_T_countBits_23 0 rfl ?_
      refine i_T_29i F (c_I_bitCount l X σ (σ q i) (h i)) (by decide) (Nat.le_of_ble_eq_true rfl) d_T_countBits_25 ?_
      refine qv_iadd F d_T_countBits_28 ?_
      refine qv_istore_n (L' := [(1, _), (5, _), (4, _), (3, _), (2, _), (0, _)]) F d_T_countBits_29 (by decide) rfl ?_
      refine qv_sub (L' := [(4, _), (3, _), (2, _), (1, _), (0, _)]) [2, 3, 4, 0, 5] rfl ?_
      refine qv_iinc (L' := [(4, _), (3, _), (2, _), (1, _), (0, _)]) F _ d_T_countBits_30 0 rfl (ii_1 _) (by decide) rfl ?_
      refine qv_goto F d_T_countBits_33 rfl ?_
      exact ih () trivial
set_option maxRecDepth 100000 in
set_option maxHeartbeats 4000000 in
theorem c_T_countPoints (l : Launch) (X : wX) (σ : sg) (h : ∀ k, σ 21 k < 256) : mt_ l X y_T_countPoints w_T_countPoints 2 [.ref (adr X 3)] σ (ei_ (nI (sp_ (σ 21) 128)) σ) := by
  refine mt_of (own := R_T) rfl pl_T (Nat.le_of_ble_eq_true rfl) ?_
  intro zp ze zs zm za zb zt zc F hr hlk
  refine qv_sub (L' := [(0, _)]) [0] rfl ?_
  refine qv_aload_n F d_T_countPoints_0 0 rfl ?_
  refine g_T_11 F d_T_countPoints_1 ?_
  refine i_T_25i F (c_T_countBits l X σ 21 128 rfl (by decide) h) (by decide) (Nat.le_of_ble_eq_true rfl) d_T_countPoints_4 ?_
  exact qv_iret F hr hlk d_T_countPoints_7 (ei_of rfl rfl)
set_option maxRecDepth 100000 in
set_option maxHeartbeats 4000000 in
theorem c_T_countHolds (l : Launch) (X : wX) (σ : sg) (h : ∀ k, σ 22 k < 256) : mt_ l X y_T_countHolds w_T_countHolds 2 [.ref (adr X 3)] σ (ei_ (nI (sp_ (σ 22) 16)) σ) := by
  refine mt_of (own := R_T) rfl pl_T (Nat.le_of_ble_eq_true rfl) ?_
  intro zp ze zs zm za zb zt zc F hr hlk
  refine qv_sub (L' := [(0, _)]) [0] rfl ?_
  refine qv_aload_n F d_T_countHolds_0 0 rfl ?_
  refine g_T_15 F d_T_countHolds_1 ?_
  refine i_T_25i F (c_T_countBits l X σ 22 16 rfl (by decide) h) (by decide) (Nat.le_of_ble_eq_true rfl) d_T_countHolds_4 ?_
  exact qv_iret F hr hlk d_T_countHolds_7 (ei_of rfl rfl)
end
section
/-! what the folds read of the told program -/
theorem fw_cg {t t' : sg} (h5 : t 5 = t' 5) (h6 : t 6 = t' 6) (v : Nat) : ∀ n, fw_ t v n = fw_ t' v n
  | 0 => rfl
  | n + 1 => by
    show fw_ t v n ||| (if (t 6 v).testBit (t 5 n) = true then 1 * 2 ^ n else 0) = fw_ t' v n ||| (if (t' 6 v).testBit (t' 5 n) = true then 1 * 2 ^ n else 0)
    rw [fw_cg h5 h6 v n, h5, h6]
theorem ft_cg {t t' : sg} (h5 : t 5 = t' 5) (h6 : t 6 = t' 6) : ft_ t = ft_ t' := by
  funext v
  exact fw_cg h5 h6 v 8
theorem sx_cg {t t' : sg} (h7 : t 7 = t' 7) (h8 : t 8 = t' 8) (h9 : t 9 = t' 9) (h10 : t 10 = t' 10) : sx_ t = sx_ t' := by
  funext w k c s
  unfold sx_
  rw [h7, h8, h9, h10]
theorem ss_cg {t t' : sg} (h7 : t 7 = t' 7) (h8 : t 8 = t' 8) (h9 : t 9 = t' 9) (h10 : t 10 = t' 10) : ss_ t = ss_ t' := by
  funext w mn n s
  unfold ss_
  rw [sx_cg h7 h8 h9 h10, h8]
theorem pa_cg {t t' : sg} (h14 : t 14 = t' 14) (h15 : t 15 = t' 15) (h16 : t 16 = t' 16) : pa_ t = pa_ t' := by
  funext w c d q s
  unfold pa_
  rw [h14, h15, h16]
theorem cs_cg {t t' : sg} (h11 : t 11 = t' 11) (h13 : t 13 = t' 13) (h14 : t 14 = t' 14) (h15 : t 15 = t' 15) (h16 : t 16 = t' 16) : cs_ t = cs_ t' := by
  funext w mn bs n s
  unfold cs_ pp_
  rw [pa_cg h14 h15 h16, h11, h13]
theorem c0_cg {t t' : sg} (h11 : t 11 = t' 11) (h12 : t 12 = t' 12) : c0_ t = c0_ t' := by
  funext n
  induction n with
  | zero => rfl
  | succ n ih =>
    funext a b
    show (c0_ t n a b || (t 11 n == a && t 12 n == b)) = (c0_ t' n a b || (t' 11 n == a && t' 12 n == b))
    rw [ih, h11, h12]
theorem br_cg {t t' : sg} (h11 : t 11 = t' 11) (h12 : t 12 = t' 12) : br_ t = br_ t' := by
  funext C f m n
  unfold br_ b1_ ou_
  rw [h11, h12]
/-- the state at the first round -/
theorem rn_0 (σ : sg) (z w : Nat → Nat) : us (ua (ua (ua σ 21 z) 22 z) 23 w) 3 3 1 = sr_ (ua σ 23 w) (z, z, 1) := by
  funext b
  unfold us sr_
  by_cases h3 : b = 3
  · subst h3; rw [ua_eq, ua_eq]; rfl
  · rw [ua_ne h3, ua_ne h3]
    by_cases h22 : b = 22
    · subst h22; rw [ua_eq]; rfl
    · rw [ua_ne h22]
      by_cases h21 : b = 21
      · subst h21; rw [ua_eq]; rfl
      · rw [ua_ne h21]
        by_cases h23 : b = 23
        · subst h23; rw [ua_eq, ua_eq]
        · rw [ua_ne h23, ua_ne h23, ua_ne h22, ua_ne h21]
theorem rn_g (σ : sg) (s : rs_) (x : Nat) : us (sr_ σ s) 3 3 x = sr_ σ (s.1, s.2.1, x) := by
  funext b
  unfold us
  by_cases h3 : b = 3
  · subst h3
    rw [ua_eq]
    show va_up (va_up (σ 3) 3 s.2.2) 3 x = va_up (σ 3) 3 x
    exact bx_uu _ _ _ _
  · rw [ua_ne h3]
    unfold sr_
    rw [ua_ne h3, ua_ne h3]
theorem B_0 (x : Nat) : B_ (fun _ => 0, fun _ => 0, x) := ⟨fun _ => by show 0 < 256; decide, fun _ => by show 0 < 256; decide⟩
theorem rd_B {t : sg} {w mn bs : Nat → Nat} {ns nc : Nat} {s : rs_} (hw : ∀ k, w k < 256) (hs : B_ s) : B_ (rd_ t w mn bs ns nc s) := cs_B hw (ss_B hw hs)
theorem lo_B {f : rs_ → rs_} (hf : ∀ s, B_ s → B_ (f s)) : ∀ n s, B_ s → B_ (lo_ f n s)
  | 0, _, hs => hs
  | n + 1, s, hs => by
    show B_ (if s.2.2 = 0 then s else lo_ f n (f s))
    by_cases e : s.2.2 = 0
    · rw [if_pos e]; exact hs
    · rw [if_neg e]; exact lo_B hf n _ (hf s hs)
/-- what the rounds come to: the class's own way -/
def fin_ (t : sg) (mn bs : Nat → Nat) (ns nc : Nat) : rs_ := lo_ (rd_ t (ft_ t) mn bs ns nc) 1153 (fun _ => 0, fun _ => 0, 1)
/-- flags are 0 or 1 -/
def fl_ (s : rs_) : Prop := s.2.2 = 0 ∨ s.2.2 = 1
theorem it_fl {f : Nat → rs_ → rs_} (h : ∀ k s, fl_ s → fl_ (f k s)) : ∀ n s, fl_ s → fl_ (it_ f n s)
  | 0, _, hs => hs
  | n + 1, s, hs => h n _ (it_fl h n s hs)
theorem ad_fl {w : Nat → Nat} {c v x : Nat} {s : rs_} (hs : fl_ s) : fl_ (ad_ w c v x s) := by
  unfold fl_ ad_
  by_cases e : s.1 (c * 16 + v) ||| (x &&& w v) = s.1 (c * 16 + v)
  · rw [if_pos e]; exact hs
  · rw [if_neg e]; exact Or.inr rfl
theorem h1_fl {f x h : Nat} {s : rs_} (hs : fl_ s) : fl_ (h1_ f x h s) := by
  unfold fl_ h1_
  by_cases e : s.2.1 (h * 2 + f) ||| x = s.2.1 (h * 2 + f)
  · rw [if_pos e]; exact hs
  · rw [if_neg e]; exact Or.inr rfl
theorem hs_fl {set f x n : Nat} {s : rs_} (hs : fl_ s) : fl_ (hs_ set f x n s) := it_fl (fun k s hs => by
  show fl_ (if set.testBit k = true then h1_ f x k s else s)
  by_cases e : set.testBit k = true
  · rw [if_pos e]; exact h1_fl hs
  · rw [if_neg e]; exact hs) n s hs
theorem sx_fl {t : sg} {w : Nat → Nat} {k c : Nat} {s : rs_} (hs : fl_ s) : fl_ (sx_ t w k c s) := by
  unfold sx_
  by_cases e0 : t 7 k = 0
  · rw [if_pos e0]; exact ad_fl hs
  · rw [if_neg e0]
    by_cases e1 : t 7 k = 1
    · rw [if_pos e1]; exact ad_fl hs
    · rw [if_neg e1]
      by_cases e2 : t 7 k = 2
      · rw [if_pos e2]; exact hs_fl hs
      · rw [if_neg e2]; exact ad_fl hs
theorem ss_fl {t : sg} {w mn : Nat → Nat} {n : Nat} {s : rs_} (hs : fl_ s) : fl_ (ss_ t w mn n s) := it_fl (fun _ s hs => it_fl (fun _ s hs => sx_fl hs) _ s hs) n s hs
theorem pa_fl {t : sg} {w : Nat → Nat} {c d q : Nat} {s : rs_} (hs : fl_ s) : fl_ (pa_ t w c d q s) := by
  unfold pa_
  by_cases e : t 16 q = 0
  · rw [if_pos e]; exact ad_fl hs
  · rw [if_neg e]; exact ad_fl hs
theorem pp_fl {t : sg} {w : Nat → Nat} {k c d n : Nat} {s : rs_} (hs : fl_ s) : fl_ (pp_ t w k c d n s) := it_fl (fun _ s hs => pa_fl hs) n s hs
theorem cs_fl {t : sg} {w mn bs : Nat → Nat} {n : Nat} {s : rs_} (hs : fl_ s) : fl_ (cs_ t w mn bs n s) := it_fl (fun _ s hs => it_fl (fun _ s hs => pp_fl hs) _ s hs) n s hs
theorem rd_fl {t : sg} {w mn bs : Nat → Nat} {ns nc : Nat} {s : rs_} : fl_ (rd_ t w mn bs ns nc s) := cs_fl (ss_fl (Or.inl rfl))
end
section
abbrev b_T_renew : ByteArray := prog_5_method_7_code
def y_T_renew : MethodName := ⟨R_T, "renew", "(LPointerClones$Program;LPointerClones$Numbering;)V"⟩
abbrev w_T_renew : List Cond := wz_ y_T_renew b_T_renew 4 none
end
section
theorem d_T_renew_0 : decode b_T_renew 0 = .ok (.aload_n 0, 1) := by decide +kernel
theorem d_T_renew_1 : decode b_T_renew 1 = .ok (.getfield 11, 3) := by decide +kernel
theorem d_T_renew_4 : decode b_T_renew 4 = .ok (.iconst 0, 1) := by decide +kernel
theorem d_T_renew_5 : decode b_T_renew 5 = .ok (.invokestatic 35, 3) := by decide +kernel
theorem d_T_renew_8 : decode b_T_renew 8 = .ok (.aload_n 0, 1) := by decide +kernel
theorem d_T_renew_9 : decode b_T_renew 9 = .ok (.getfield 15, 3) := by decide +kernel
theorem d_T_renew_12 : decode b_T_renew 12 = .ok (.iconst 0, 1) := by decide +kernel
theorem d_T_renew_13 : decode b_T_renew 13 = .ok (.invokestatic 35, 3) := by decide +kernel
theorem d_T_renew_16 : decode b_T_renew 16 = .ok (.aload_n 0, 1) := by decide +kernel
theorem d_T_renew_17 : decode b_T_renew 17 = .ok (.aload_n 1, 1) := by decide +kernel
theorem d_T_renew_18 : decode b_T_renew 18 = .ok (.invokevirtual 41, 3) := by decide +kernel
theorem d_T_renew_21 : decode b_T_renew 21 = .ok (.aload_n 0, 1) := by decide +kernel
theorem d_T_renew_22 : decode b_T_renew 22 = .ok (.iconst 1, 1) := by decide +kernel
theorem d_T_renew_23 : decode b_T_renew 23 = .ok (.putfield 21, 3) := by decide +kernel
theorem d_T_renew_26 : decode b_T_renew 26 = .ok (.iconst 0, 1) := by decide +kernel
theorem d_T_renew_27 : decode b_T_renew 27 = .ok (.istore_n 3, 1) := by decide +kernel
theorem d_T_renew_28 : decode b_T_renew 28 = .ok (.aload_n 0, 1) := by decide +kernel
theorem d_T_renew_29 : decode b_T_renew 29 = .ok (.getfield 21, 3) := by decide +kernel
theorem d_T_renew_32 : decode b_T_renew 32 = .ok (.ifCond .eq 33, 3) := by decide +kernel
theorem d_T_renew_35 : decode b_T_renew 35 = .ok (.iload_n 3, 1) := by decide +kernel
theorem d_T_renew_36 : decode b_T_renew 36 = .ok (.sipush 1153, 3) := by decide +kernel
theorem d_T_renew_39 : decode b_T_renew 39 = .ok (.if_icmp .ge 26, 3) := by decide +kernel
theorem d_T_renew_42 : decode b_T_renew 42 = .ok (.aload_n 0, 1) := by decide +kernel
theorem d_T_renew_43 : decode b_T_renew 43 = .ok (.iconst 0, 1) := by decide +kernel
theorem d_T_renew_44 : decode b_T_renew 44 = .ok (.putfield 21, 3) := by decide +kernel
theorem d_T_renew_47 : decode b_T_renew 47 = .ok (.aload_n 0, 1) := by decide +kernel
theorem d_T_renew_48 : decode b_T_renew 48 = .ok (.aload_n 1, 1) := by decide +kernel
theorem d_T_renew_49 : decode b_T_renew 49 = .ok (.aload_n 2, 1) := by decide +kernel
theorem d_T_renew_50 : decode b_T_renew 50 = .ok (.invokevirtual 45, 3) := by decide +kernel
theorem d_T_renew_53 : decode b_T_renew 53 = .ok (.aload_n 0, 1) := by decide +kernel
theorem d_T_renew_54 : decode b_T_renew 54 = .ok (.aload_n 1, 1) := by decide +kernel
theorem d_T_renew_55 : decode b_T_renew 55 = .ok (.aload_n 2, 1) := by decide +kernel
theorem d_T_renew_56 : decode b_T_renew 56 = .ok (.invokevirtual 49, 3) := by decide +kernel
theorem d_T_renew_59 : decode b_T_renew 59 = .ok (.iinc 3 1, 3) := by decide +kernel
theorem d_T_renew_62 : decode b_T_renew 62 = .ok (.goto (-34), 3) := by decide +kernel
theorem d_T_renew_65 : decode b_T_renew 65 = .ok (.return_, 1) := by decide +kernel
end
section
section RW
variable {own : String} {p : Program} {l : Launch} {e : Env} {R : Room} {s : State} {m : MethodId} {args : Array Value} {below : List Frame} {meth : Method} {c : Code} {Q : State → Prop} {X : wX} {nL : Nat} {L : List (Nat × Value)} {σ : sg} {pc : Nat} {st : List Value} {cc : ByteArray}
theorem sic_1153 : (Int16.ofInt (1153)).toInt32 = nI 1153 := by decide
theorem g_T_21 (F : fx_ p s m args c cc nL R_T X) (hd : decode cc pc = .ok (.getfield 21, 3)) (k : vv_ p l e R s m args below meth c Q X nL L σ (pc + 3) (.int (nI (σ 3 3)) :: st)) : vv_ p l e R s m args below meth c Q X nL L σ pc (.ref (adr X 3) :: st) := qv_geti F (ref := R_T) (C := R_T) (T := F_T) (N := 4) in_T 3 rfl rfl 3 (by decide) (by decide +kernel) rfl rfl hd k
theorem i_T_35v (F : fx_ p s m args c cc nL R_T X) {v0 v1 : Value} {rest : List Value} {d : Nat} {τ : sg} (hM : mt_ l X y_A_fill w_A_fill d [v0, v1] σ (ev_ τ)) (hR : d + 1 ≤ R.frames ∧ 8 + (4 + 11) + 30 * d ≤ R.locals) (hw : (rest.map fun v => v.category).sum ≤ 8) (hd : decode cc pc = .ok (.invokestatic 35, 3)) (k : vv_ p l e R s m args below meth c Q X nL L τ (pc + 3) rest) : vv_ p l e R s m args below meth c Q X nL L σ pc (v1 :: v0 :: rest) :=
  qv_callS F (maxL := 4) (ret := none) (n := 2) (as := [v0, v1]) (rest := rest) (by decide +kernel) (by decide +kernel) (by decide +kernel) (by decide +kernel) (by decide +kernel) hM rfl hR hw hd (fun r τ' hp => by obtain ⟨rfl, rfl⟩ := hp; exact k)
theorem i_T_41v (F : fx_ p s m args c cc nL R_T X) {v0 : Value} {rest : List Value} {d : Nat} {τ : sg} (hM : mt_ l X y_T_findWelcome w_T_findWelcome d [.ref (adr X 3), v0] σ (ev_ τ)) (hR : d + 1 ≤ R.frames ∧ 8 + (5 + 11) + 30 * d ≤ R.locals) (hw : (rest.map fun v => v.category).sum ≤ 8) (hd : decode cc pc = .ok (.invokevirtual 41, 3)) (k : vv_ p l e R s m args below meth c Q X nL L τ (pc + 3) rest) : vv_ p l e R s m args below meth c Q X nL L σ pc (v0 :: .ref (adr X 3) :: rest) :=
  qv_callV F (maxL := 5) (ret := none) (n := 1) (as := [v0]) (rest := rest) 3 rfl rfl (by decide +kernel) (by decide +kernel) (by decide +kernel) (by decide +kernel) (by decide +kernel) (by decide +kernel) hM rfl hR hw hd (fun r τ' hp => by obtain ⟨rfl, rfl⟩ := hp; exact k)
theorem i_T_45v (F : fx_ p s m args c cc nL R_T X) {v0 v1 : Value} {rest : List Value} {d : Nat} {τ : sg} (hM : mt_ l X y_T_applyStatements w_T_applyStatements d [.ref (adr X 3), v0, v1] σ (ev_ τ)) (hR : d + 1 ≤ R.frames ∧ 8 + (6 + 11) + 30 * d ≤ R.locals) (hw : (rest.map fun v => v.category).sum ≤ 8) (hd : decode cc pc = .ok (.invokevirtual 45, 3)) (k : vv_ p l e R s m args below meth c Q X nL L τ (pc + 3) rest) : vv_ p l e R s m args below meth c Q X nL L σ pc (v1 :: v0 :: .ref (adr X 3) :: rest) :=
  qv_callV F (maxL := 6) (ret := none) (n := 2) (as := [v0, v1]) (rest := rest) 3 rfl rfl (by decide +kernel) (by decide +kernel) (by decide +kernel) (by decide +kernel) (by decide +kernel) (by decide +kernel) hM rfl hR hw hd (fun r τ' hp => by obtain ⟨rfl, rfl⟩ := hp; exact k)
theorem i_T_49v (F : fx_ p s m args c cc nL R_T X) {v0 v1 : Value} {rest : List Value} {d : Nat} {τ : sg} (hM : mt_ l X y_T_applyCalls w_T_applyCalls d [.ref (adr X 3), v0, v1] σ (ev_ τ)) (hR : d + 1 ≤ R.frames ∧ 8 + (6 + 11) + 30 * d ≤ R.locals) (hw : (rest.map fun v => v.category).sum ≤ 8) (hd : decode cc pc = .ok (.invokevirtual 49, 3)) (k : vv_ p l e R s m args below meth c Q X nL L τ (pc + 3) rest) : vv_ p l e R s m args below meth c Q X nL L σ pc (v1 :: v0 :: .ref (adr X 3) :: rest) :=
  qv_callV F (maxL := 6) (ret := none) (n := 2) (as := [v0, v1]) (rest := rest) 3 rfl rfl (by decide +kernel) (by decide +kernel) (by decide +kernel) (by decide +kernel) (by decide +kernel) (by decide +kernel) hM rfl hR hw hd (fun r τ' hp => by obtain ⟨rfl, rfl⟩ := hp; exact k)
end RW
end
section
/-! relations: the rounds -/
set_option maxRecDepth 100000 in
set_option maxHeartbeats 4000000 in
theorem c_T_renew (l : Launch) (X : wX) (σ : sg) (hn : σ 1 2 ≤ 40) (hc : σ 1 7 ≤ 8) (hm : ∀ k, σ 17 k ≤ 8) (hb0 : ∀ k, k < σ 1 7 → σ 18 k + σ 17 (σ 11 k) ≤ 8) (ht : tw_ σ) : mt_ l X y_T_renew w_T_renew 4 [.ref (adr X 3), .ref (adr X 1), .ref (adr X 2)] σ (ev_ (sr_ (ua σ 23 (ft_ σ)) (fin_ σ (σ 17) (σ 18) (σ 1 2) (σ 1 7)))) := by
  refine mt_of (own := R_T) rfl pl_T (Nat.le_of_ble_eq_true rfl) ?_
  intro zp ze zs zm za zb zt zc F hr hlk
  refine qv_sub (L' := [(0, _), (1, _), (2, _)]) [0, 1, 2] rfl ?_
  refine qv_aload_n F d_T_renew_0 0 rfl ?_
  refine g_T_11 F d_T_renew_1 ?_
  refine qv_iconst F (nI 0) d_T_renew_4 ic_0 ?_
  refine i_T_35v F (c_A_fill l X σ 21 128 0 rfl (by decide)) (by decide) (Nat.le_of_ble_eq_true rfl) d_T_renew_5 ?_
  refine qv_aload_n F d_T_renew_8 0 rfl ?_
  refine g_T_15 F d_T_renew_9 ?_
  refine qv_iconst F (nI 0) d_T_renew_12 ic_0 ?_
  refine i_T_35v F (c_A_fill l X _ 22 16 0 rfl (by decide)) (by decide) (Nat.le_of_ble_eq_true rfl) d_T_renew_13 ?_
  refine qv_aload_n F d_T_renew_16 0 rfl ?_
  refine qv_aload_n F d_T_renew_17 1 rfl ?_
  refine i_T_41v F (c_T_findWelcome l X _ ht.1 ht.2.1) (by decide) (Nat.le_of_ble_eq_true rfl) d_T_renew_18 ?_
  rw [ft_cg (t := ua (ua σ 21 fun _ => 0) 22 fun _ => 0) (t' := σ) rfl rfl]
  refine qv_aload_n F d_T_renew_21 0 rfl ?_
  refine qv_iconst F (nI 1) d_T_renew_22 ic_1 ?_
  refine p_T_21 F (Or.inr rfl) d_T_renew_23 ?_
  refine qv_iconst F (nI 0) d_T_renew_26 ic_0 ?_
  refine qv_istore_n (L' := [(3, _), (0, _), (1, _), (2, _)]) F d_T_renew_27 (by decide) rfl ?_
  rw [rn_0]
  have hw : ∀ k, ft_ σ k < 256 := ft_lt σ
  have lp := lu_up (fun i (r : rs_) => vv_ zp l ze (rr_ 4) zs zm za zb zt zc (MQ zb (mq_ X (ev_ (sr_ (ua σ 23 (ft_ σ)) (fin_ σ (σ 17) (σ 18) (σ 1 2) (σ 1 7))))) za zs 0 0 (aw_ X)) X 4 [(3, .int (nI i)), (0, .ref (adr X 3)), (1, .ref (adr X 1)), (2, .ref (adr X 2))] (sr_ (ua σ 23 (ft_ σ)) r) 28 []) (fun i r => B_ r ∧ fl_ r ∧ lo_ (rd_ σ (ft_ σ) (σ 17) (σ 18) (σ 1 2) (σ 1 7)) (1153 - i) r = fin_ σ (σ 17) (σ 18) (σ 1 2) (σ 1 7)) 1153 ?_ ?_ 0 (fun _ => 0, fun _ => 0, 1) (Nat.zero_le _) ⟨B_0 1, Or.inr rfl, rfl⟩
  · exact lp
  · intro r hI
    have hI3 : r = fin_ σ (σ 17) (σ 18) (σ 1 2) (σ 1 7) := hI.2.2
    have hfl : r.2.2 < 2 ^ 31 := by rcases hI.2.1 with h | h <;> rw [h] <;> decide
    refine qv_aload_n F d_T_renew_28 1 rfl ?_
    refine g_T_21 F d_T_renew_29 ?_
    refine qv_ifeq F d_T_renew_32 rfl hfl (fun hb => ?_) (fun hb => ?_)
    ·
      exact qv_ret F hr hlk d_T_renew_65 (ev_of (by rw [hI3]))
    ·
      refine qv_iload_n F d_T_renew_35 0 rfl ?_
      refine qv_sipush F (nI 1153) d_T_renew_36 sic_1153 ?_
      refine qv_icmpge F d_T_renew_39 rfl (by decide) (by decide) (fun hb => ?_) (fun hb => ?_)
      ·
        exact qv_ret F hr hlk d_T_renew_65 (ev_of (by rw [hI3]))
      ·
        exact absurd hb (by decide)
  · intro i r hi hI ih
    obtain ⟨hB, hf, hS⟩ := hI
    have hfl : r.2.2 < 2 ^ 31 := by rcases hf with h | h <;> rw [h] <;> decide
    refine qv_aload_n F d_T_renew_28 1 rfl ?_
    refine g_T_21 F d_T_renew_29 ?_
    refine qv_ifeq F d_T_renew_32 rfl hfl (fun hb => ?_) (fun hb => ?_)
    ·
      rw [lo_0 (show r.2.2 = 0 from hb)] at hS
      exact qv_ret F hr hlk d_T_renew_65 (ev_of (by rw [hS]))
    ·
      have hne : r.2.2 ≠ 0 := hb
      refine qv_iload_n F d_T_renew_35 0 rfl ?_
      refine qv_sipush F (nI 1153) d_T_renew_36 sic_1153 ?_
      refine qv_icmpge F d_T_renew_39 rfl (by omega) (by omega) (fun hb => ?_) (fun hb => ?_)
      ·
        omega
      ·
        refine qv_aload_n F d_T_renew_42 1 rfl ?_
        refine qv_iconst F (nI 0) d_T_renew_43 ic_0 ?_
        refine p_T_21 F (Or.inl rfl) d_T_renew_44 ?_
        refine qv_aload_n F d_T_renew_47 1 rfl ?_
        refine qv_aload_n F d_T_renew_48 2 rfl ?_
        refine qv_aload_n F d_T_renew_49 3 rfl ?_
        rw [rn_g]
        have hB0 : B_ (r.1, r.2.1, 0) := hB
        refine i_T_45v F (c_T_applyStatements l X (sr_ (ua σ 23 (ft_ σ)) (r.1, r.2.1, 0)) hn hm ht hB0 hw) (by decide) (Nat.le_of_ble_eq_true rfl) d_T_renew_50 ?_
        rw [sr_sr]
        have e1 : ss_ (sr_ (ua σ 23 (ft_ σ)) (r.1, r.2.1, 0)) = ss_ σ := ss_cg rfl rfl rfl rfl
        rw [e1]
        have hB1 : B_ (ss_ σ (ft_ σ) (σ 17) (σ 1 2) (r.1, r.2.1, 0)) := ss_B hw hB0
        refine qv_st (σ' := sr_ (ua σ 23 (ft_ σ)) (ss_ σ (ft_ σ) (σ 17) (σ 1 2) (r.1, r.2.1, 0))) rfl ?_
        refine qv_aload_n F d_T_renew_53 1 rfl ?_
        refine qv_aload_n F d_T_renew_54 2 rfl ?_
        refine qv_aload_n F d_T_renew_55 3 rfl ?_
        refine i_T_49v F (c_T_applyCalls l X (sr_ (ua σ 23 (ft_ σ)) (ss_ σ (ft_ σ) (σ 17) (σ 1 2) (r.1, r.2.1, 0))) hc hb0 ht hB1 hw) (by decide) (Nat.le_of_ble_eq_true rfl) d_T_renew_56 ?_
        rw [sr_sr]
        have e2 : cs_ (sr_ (ua σ 23 (ft_ σ)) (ss_ σ (ft_ σ) (σ 17) (σ 1 2) (r.1, r.2.1, 0))) = cs_ σ := cs_cg rfl rfl rfl rfl rfl
        rw [e2]
        refine qv_st (σ' := sr_ (ua σ 23 (ft_ σ)) (rd_ σ (ft_ σ) (σ 17) (σ 18) (σ 1 2) (σ 1 7) r)) rfl ?_
        refine qv_iinc (L' := [(3, _), (0, _), (1, _), (2, _)]) F _ d_T_renew_59 0 rfl (ii_1 _) (by decide) rfl ?_
        refine qv_goto F d_T_renew_62 rfl ?_
        refine ih _ ⟨rd_B hw hB, rd_fl, ?_⟩
        have e3 : 1153 - i = (1153 - (i + 1)) + 1 := by omega
        rw [e3] at hS
        rw [← hS]
        exact (if_neg hne).symm
end
section
/-! counts: what the class keeps -/
theorem sw_hb {t : sg} {C : rl_} {nc : Nat} (h : ok_ t C nc) (h8 : nc ≤ 8) {f : Nat → Nat} (hf : hb_ C f) : ∀ n, n ≤ 4 → hb_ C (sw_ (f1_ t C nc) f n)
  | 0, _ => hf
  | n + 1, hn => by
    have ih := sw_hb h h8 hf n (by omega)
    exact hb_up ih (f1_b h h8 ih (by omega))
theorem hb_1 (C : rl_) : hb_ C (fun _ => 1) := fun a _ => Nat.one_le_pow _ _ (by decide)
theorem sn_hb {t : sg} {C : rl_} {nc : Nat} (h : ok_ t C nc) (h8 : nc ≤ 8) : ∀ n, hb_ C (sn_ (f1_ t C nc) (fun _ => 1) n)
  | 0 => hb_1 C
  | n + 1 => sw_hb h h8 (sn_hb h h8 n) 4 (Nat.le_refl _)
def gd_ (S : Nat → Nat) : Bool := decide (S 0 ≤ 8 ∧ S 1 ≤ 8 ∧ S 2 ≤ 8 ∧ S 3 ≤ 8)
theorem gd_t {S : Nat → Nat} (h : ∀ k, k < 4 → S k ≤ 8) : gd_ S = true := decide_eq_true ⟨h 0 (by decide), h 1 (by decide), h 2 (by decide), h 3 (by decide)⟩
theorem gd_f {S : Nat → Nat} {k : Nat} (hk : k < 4) (h : 8 < S k) : gd_ S = false := by
  refine decide_eq_false fun q => ?_
  have e : k = 0 ∨ k = 1 ∨ k = 2 ∨ k = 3 := by omega
  rcases e with rfl | rfl | rfl | rfl <;> omega
theorem gd_of {S : Nat → Nat} (h : gd_ S = true) : ∀ k, k < 4 → S k ≤ 8 := by
  have h := of_decide_eq_true h
  intro k hk
  have e : k = 0 ∨ k = 1 ∨ k = 2 ∨ k = 3 := by omega
  rcases e with rfl | rfl | rfl | rfl <;> omega
theorem gd_cg {S S' : Nat → Nat} (h : ∀ k, k < 4 → S k = S' k) : gd_ S = gd_ S' := by
  unfold gd_
  rw [h 0 (by decide), h 1 (by decide), h 2 (by decide), h 3 (by decide)]
/-- the counts that hold: four methods, one beyond -/
def ct2_ (t : sg) (nc : Nat) : Nat → Nat := fun k => if k < 4 then so_ t (cr_ t nc) nc k else 1
def fb_ (t : sg) (nc : Nat) (old : Nat → Nat) : Nat → Nat := fun k => if k < nc then ba_ t (cr_ t nc) (so_ t (cr_ t nc) nc) k else old k
theorem br_fe {t : sg} {C : rl_} {f g : Nat → Nat} {m : Nat} (h11 : ∀ k, t 11 k < 4) (h : ∀ a, a < 4 → f a = g a) : ∀ n, br_ t C f m n = br_ t C g m n := fun n => sm_eq n (fun k _ => by
  unfold b1_
  by_cases e : (ou_ t C k && gp_ C (t 12 k) m) = true
  · rw [if_pos e, if_pos e]; exact h _ (h11 k)
  · rw [if_neg e, if_neg e])
theorem ba_f {t : sg} {C : rl_} {f g : Nat → Nat} (h11 : ∀ k, t 11 k < 4) (h : ∀ a, a < 4 → f a = g a) (k : Nat) : ba_ t C f k = ba_ t C g k := by
  unfold ba_
  by_cases e : ou_ t C k = true
  · rw [if_pos e, if_pos e]; exact br_fe h11 h k
  · rw [if_neg e, if_neg e]
def S4_ (t : sg) (nc : Nat) : Nat → Nat := sn_ (f1_ t (cr_ t nc) nc) (fun _ => 1) 4
def M4_ (t : sg) (nc : Nat) : Nat → Nat := mk_ (wc_ (c0_ t nc))
/-- the class's cells behind a good numbering, behind a refused one -/
def ny_ (σ : sg) : sg := ua (us (ua (ua (ua σ 19 (M4_ σ (σ 1 7))) 20 (S4_ σ (σ 1 7))) 17 (ct2_ σ (σ 1 7))) 2 2 (σ 1 7)) 18 (fb_ σ (σ 1 7) (σ 18))
def nn_ (σ : sg) : sg := ua (ua σ 19 (M4_ σ (σ 1 7))) 20 (S4_ σ (σ 1 7))
theorem ct2_8 {t : sg} {nc : Nat} (h : gd_ (so_ t (cr_ t nc) nc) = true) (k : Nat) : ct2_ t nc k ≤ 8 := by
  unfold ct2_
  by_cases e : k < 4
  · rw [if_pos e]; exact gd_of h k e
  · rw [if_neg e]; decide
theorem ct2_1 {t : sg} {nc : Nat} (h : ok_ t (cr_ t nc) nc) (k : Nat) : 1 ≤ ct2_ t nc k := by
  unfold ct2_
  by_cases e : k < 4
  · rw [if_pos e]; exact so_pos h e
  · rw [if_neg e]; decide
theorem fb_8 {t : sg} {nc : Nat} {old : Nat → Nat} (h : ok_ t (cr_ t nc) nc) (hg : gd_ (so_ t (cr_ t nc) nc) = true) {k : Nat} (hk : k < nc) : fb_ t nc old k + ct2_ t nc (t 11 k) ≤ 8 := by
  unfold fb_ ct2_
  rw [if_pos hk, if_pos (h.1 k)]
  exact ba_8 h (gd_of hg) hk
theorem fin_cg {t t' : sg} (h5 : t 5 = t' 5) (h6 : t 6 = t' 6) (h7 : t 7 = t' 7) (h8 : t 8 = t' 8) (h9 : t 9 = t' 9) (h10 : t 10 = t' 10) (h11 : t 11 = t' 11) (h13 : t 13 = t' 13) (h14 : t 14 = t' 14) (h15 : t 15 = t' 15) (h16 : t 16 = t' 16) : fin_ t = fin_ t' := by
  funext mn bs ns nc
  unfold fin_ rd_
  rw [ft_cg h5 h6, ss_cg h7 h8 h9 h10, cs_cg h11 h13 h14 h15 h16]
theorem fin_B (t : sg) (mn bs : Nat → Nat) (ns nc : Nat) : B_ (fin_ t mn bs ns nc) := lo_B (fun _ hs => rd_B (ft_lt t) hs) 1153 _ (B_0 1)
end
section
abbrev b_N_keepReckoned : ByteArray := prog_3_method_7_code
def y_N_keepReckoned : MethodName := ⟨R_N, "keepReckoned", "(LPointerClones$Program;)V"⟩
abbrev w_N_keepReckoned : List Cond := wz_ y_N_keepReckoned b_N_keepReckoned 4 none
abbrev b_N_reckonCounts : ByteArray := prog_3_method_5_code
def y_N_reckonCounts : MethodName := ⟨R_N, "reckonCounts", "(LPointerClones$Program;)V"⟩
abbrev w_N_reckonCounts : List Cond := wz_ y_N_reckonCounts b_N_reckonCounts 4 none
abbrev b_N_renew : ByteArray := prog_3_method_3_code
def y_N_renew : MethodName := ⟨R_N, "renew", "(LPointerClones$Program;)Z"⟩
abbrev w_N_renew : List Cond := wz_ y_N_renew b_N_renew 3 (some .boolean)
end
section
theorem d_N_keepReckoned_0 : decode b_N_keepReckoned 0 = .ok (.aload_n 0, 1) := by decide +kernel
theorem d_N_keepReckoned_1 : decode b_N_keepReckoned 1 = .ok (.getfield 25, 3) := by decide +kernel
theorem d_N_keepReckoned_4 : decode b_N_keepReckoned 4 = .ok (.iconst 0, 1) := by decide +kernel
theorem d_N_keepReckoned_5 : decode b_N_keepReckoned 5 = .ok (.aload_n 0, 1) := by decide +kernel
theorem d_N_keepReckoned_6 : decode b_N_keepReckoned 6 = .ok (.getfield 9, 3) := by decide +kernel
theorem d_N_keepReckoned_9 : decode b_N_keepReckoned 9 = .ok (.iconst 0, 1) := by decide +kernel
theorem d_N_keepReckoned_10 : decode b_N_keepReckoned 10 = .ok (.iconst 4, 1) := by decide +kernel
theorem d_N_keepReckoned_11 : decode b_N_keepReckoned 11 = .ok (.invokestatic 74, 3) := by decide +kernel
theorem d_N_keepReckoned_14 : decode b_N_keepReckoned 14 = .ok (.aload_n 0, 1) := by decide +kernel
theorem d_N_keepReckoned_15 : decode b_N_keepReckoned 15 = .ok (.aload_n 1, 1) := by decide +kernel
theorem d_N_keepReckoned_16 : decode b_N_keepReckoned 16 = .ok (.getfield 44, 3) := by decide +kernel
theorem d_N_keepReckoned_19 : decode b_N_keepReckoned 19 = .ok (.putfield 18, 3) := by decide +kernel
theorem d_N_keepReckoned_22 : decode b_N_keepReckoned 22 = .ok (.iconst 0, 1) := by decide +kernel
theorem d_N_keepReckoned_23 : decode b_N_keepReckoned 23 = .ok (.istore_n 2, 1) := by decide +kernel
theorem d_N_keepReckoned_24 : decode b_N_keepReckoned 24 = .ok (.iload_n 2, 1) := by decide +kernel
theorem d_N_keepReckoned_25 : decode b_N_keepReckoned 25 = .ok (.aload_n 0, 1) := by decide +kernel
theorem d_N_keepReckoned_26 : decode b_N_keepReckoned 26 = .ok (.getfield 18, 3) := by decide +kernel
theorem d_N_keepReckoned_29 : decode b_N_keepReckoned 29 = .ok (.if_icmp .ge 42, 3) := by decide +kernel
theorem d_N_keepReckoned_32 : decode b_N_keepReckoned 32 = .ok (.aload_n 0, 1) := by decide +kernel
theorem d_N_keepReckoned_33 : decode b_N_keepReckoned 33 = .ok (.aload_n 1, 1) := by decide +kernel
theorem d_N_keepReckoned_34 : decode b_N_keepReckoned 34 = .ok (.iload_n 2, 1) := by decide +kernel
theorem d_N_keepReckoned_35 : decode b_N_keepReckoned 35 = .ok (.invokevirtual 67, 3) := by decide +kernel
theorem d_N_keepReckoned_38 : decode b_N_keepReckoned 38 = .ok (.istore_n 3, 1) := by decide +kernel
theorem d_N_keepReckoned_39 : decode b_N_keepReckoned 39 = .ok (.aload_n 0, 1) := by decide +kernel
theorem d_N_keepReckoned_40 : decode b_N_keepReckoned 40 = .ok (.getfield 15, 3) := by decide +kernel
theorem d_N_keepReckoned_43 : decode b_N_keepReckoned 43 = .ok (.iload_n 2, 1) := by decide +kernel
theorem d_N_keepReckoned_44 : decode b_N_keepReckoned 44 = .ok (.iload_n 3, 1) := by decide +kernel
theorem d_N_keepReckoned_45 : decode b_N_keepReckoned 45 = .ok (.ifCond .eq 18, 3) := by decide +kernel
theorem d_N_keepReckoned_48 : decode b_N_keepReckoned 48 = .ok (.aload_n 0, 1) := by decide +kernel
theorem d_N_keepReckoned_49 : decode b_N_keepReckoned 49 = .ok (.aload_n 1, 1) := by decide +kernel
theorem d_N_keepReckoned_50 : decode b_N_keepReckoned 50 = .ok (.iload_n 2, 1) := by decide +kernel
theorem d_N_keepReckoned_51 : decode b_N_keepReckoned 51 = .ok (.aload_n 1, 1) := by decide +kernel
theorem d_N_keepReckoned_52 : decode b_N_keepReckoned 52 = .ok (.getfield 50, 3) := by decide +kernel
theorem d_N_keepReckoned_55 : decode b_N_keepReckoned 55 = .ok (.iload_n 2, 1) := by decide +kernel
theorem d_N_keepReckoned_56 : decode b_N_keepReckoned 56 = .ok (.iaload, 1) := by decide +kernel
theorem d_N_keepReckoned_57 : decode b_N_keepReckoned 57 = .ok (.invokevirtual 57, 3) := by decide +kernel
theorem d_N_keepReckoned_60 : decode b_N_keepReckoned 60 = .ok (.goto 4, 3) := by decide +kernel
theorem d_N_keepReckoned_63 : decode b_N_keepReckoned 63 = .ok (.iconst 0, 1) := by decide +kernel
theorem d_N_keepReckoned_64 : decode b_N_keepReckoned 64 = .ok (.iastore, 1) := by decide +kernel
theorem d_N_keepReckoned_65 : decode b_N_keepReckoned 65 = .ok (.iinc 2 1, 3) := by decide +kernel
theorem d_N_keepReckoned_68 : decode b_N_keepReckoned 68 = .ok (.goto (-44), 3) := by decide +kernel
theorem d_N_keepReckoned_71 : decode b_N_keepReckoned 71 = .ok (.return_, 1) := by decide +kernel
theorem d_N_reckonCounts_0 : decode b_N_reckonCounts 0 = .ok (.aload_n 0, 1) := by decide +kernel
theorem d_N_reckonCounts_1 : decode b_N_reckonCounts 1 = .ok (.getfield 25, 3) := by decide +kernel
theorem d_N_reckonCounts_4 : decode b_N_reckonCounts 4 = .ok (.iconst 1, 1) := by decide +kernel
theorem d_N_reckonCounts_5 : decode b_N_reckonCounts 5 = .ok (.invokestatic 28, 3) := by decide +kernel
theorem d_N_reckonCounts_8 : decode b_N_reckonCounts 8 = .ok (.iconst 0, 1) := by decide +kernel
theorem d_N_reckonCounts_9 : decode b_N_reckonCounts 9 = .ok (.istore_n 2, 1) := by decide +kernel
theorem d_N_reckonCounts_10 : decode b_N_reckonCounts 10 = .ok (.iload_n 2, 1) := by decide +kernel
theorem d_N_reckonCounts_11 : decode b_N_reckonCounts 11 = .ok (.iconst 4, 1) := by decide +kernel
theorem d_N_reckonCounts_12 : decode b_N_reckonCounts 12 = .ok (.if_icmp .ge 42, 3) := by decide +kernel
theorem d_N_reckonCounts_15 : decode b_N_reckonCounts 15 = .ok (.iconst 0, 1) := by decide +kernel
theorem d_N_reckonCounts_16 : decode b_N_reckonCounts 16 = .ok (.istore_n 3, 1) := by decide +kernel
theorem d_N_reckonCounts_17 : decode b_N_reckonCounts 17 = .ok (.iload_n 3, 1) := by decide +kernel
theorem d_N_reckonCounts_18 : decode b_N_reckonCounts 18 = .ok (.iconst 4, 1) := by decide +kernel
theorem d_N_reckonCounts_19 : decode b_N_reckonCounts 19 = .ok (.if_icmp .ge 29, 3) := by decide +kernel
theorem d_N_reckonCounts_22 : decode b_N_reckonCounts 22 = .ok (.aload_n 0, 1) := by decide +kernel
theorem d_N_reckonCounts_23 : decode b_N_reckonCounts 23 = .ok (.getfield 25, 3) := by decide +kernel
theorem d_N_reckonCounts_26 : decode b_N_reckonCounts 26 = .ok (.iload_n 3, 1) := by decide +kernel
theorem d_N_reckonCounts_27 : decode b_N_reckonCounts 27 = .ok (.iconst 1, 1) := by decide +kernel
theorem d_N_reckonCounts_28 : decode b_N_reckonCounts 28 = .ok (.aload_n 0, 1) := by decide +kernel
theorem d_N_reckonCounts_29 : decode b_N_reckonCounts 29 = .ok (.aload_n 1, 1) := by decide +kernel
theorem d_N_reckonCounts_30 : decode b_N_reckonCounts 30 = .ok (.aload_n 1, 1) := by decide +kernel
theorem d_N_reckonCounts_31 : decode b_N_reckonCounts 31 = .ok (.getfield 44, 3) := by decide +kernel
theorem d_N_reckonCounts_34 : decode b_N_reckonCounts 34 = .ok (.iload_n 3, 1) := by decide +kernel
theorem d_N_reckonCounts_35 : decode b_N_reckonCounts 35 = .ok (.invokevirtual 57, 3) := by decide +kernel
theorem d_N_reckonCounts_38 : decode b_N_reckonCounts 38 = .ok (.invokestatic 61, 3) := by decide +kernel
theorem d_N_reckonCounts_41 : decode b_N_reckonCounts 41 = .ok (.iastore, 1) := by decide +kernel
theorem d_N_reckonCounts_42 : decode b_N_reckonCounts 42 = .ok (.iinc 3 1, 3) := by decide +kernel
theorem d_N_reckonCounts_45 : decode b_N_reckonCounts 45 = .ok (.goto (-28), 3) := by decide +kernel
theorem d_N_reckonCounts_48 : decode b_N_reckonCounts 48 = .ok (.iinc 2 1, 3) := by decide +kernel
theorem d_N_reckonCounts_51 : decode b_N_reckonCounts 51 = .ok (.goto (-41), 3) := by decide +kernel
theorem d_N_reckonCounts_54 : decode b_N_reckonCounts 54 = .ok (.return_, 1) := by decide +kernel
theorem d_N_renew_0 : decode b_N_renew 0 = .ok (.aload_n 0, 1) := by decide +kernel
theorem d_N_renew_1 : decode b_N_renew 1 = .ok (.aload_n 1, 1) := by decide +kernel
theorem d_N_renew_2 : decode b_N_renew 2 = .ok (.invokevirtual 34, 3) := by decide +kernel
theorem d_N_renew_5 : decode b_N_renew 5 = .ok (.aload_n 0, 1) := by decide +kernel
theorem d_N_renew_6 : decode b_N_renew 6 = .ok (.aload_n 1, 1) := by decide +kernel
theorem d_N_renew_7 : decode b_N_renew 7 = .ok (.invokevirtual 38, 3) := by decide +kernel
theorem d_N_renew_10 : decode b_N_renew 10 = .ok (.iconst 0, 1) := by decide +kernel
theorem d_N_renew_11 : decode b_N_renew 11 = .ok (.istore_n 2, 1) := by decide +kernel
theorem d_N_renew_12 : decode b_N_renew 12 = .ok (.iload_n 2, 1) := by decide +kernel
theorem d_N_renew_13 : decode b_N_renew 13 = .ok (.iconst 4, 1) := by decide +kernel
theorem d_N_renew_14 : decode b_N_renew 14 = .ok (.if_icmp .ge 22, 3) := by decide +kernel
theorem d_N_renew_17 : decode b_N_renew 17 = .ok (.aload_n 0, 1) := by decide +kernel
theorem d_N_renew_18 : decode b_N_renew 18 = .ok (.getfield 25, 3) := by decide +kernel
theorem d_N_renew_21 : decode b_N_renew 21 = .ok (.iload_n 2, 1) := by decide +kernel
theorem d_N_renew_22 : decode b_N_renew 22 = .ok (.iaload, 1) := by decide +kernel
theorem d_N_renew_23 : decode b_N_renew 23 = .ok (.bipush 8, 2) := by decide +kernel
theorem d_N_renew_25 : decode b_N_renew 25 = .ok (.if_icmp .le 5, 3) := by decide +kernel
theorem d_N_renew_28 : decode b_N_renew 28 = .ok (.iconst 0, 1) := by decide +kernel
theorem d_N_renew_29 : decode b_N_renew 29 = .ok (.ireturn, 1) := by decide +kernel
theorem d_N_renew_30 : decode b_N_renew 30 = .ok (.iinc 2 1, 3) := by decide +kernel
theorem d_N_renew_33 : decode b_N_renew 33 = .ok (.goto (-21), 3) := by decide +kernel
theorem d_N_renew_36 : decode b_N_renew 36 = .ok (.aload_n 0, 1) := by decide +kernel
theorem d_N_renew_37 : decode b_N_renew 37 = .ok (.aload_n 1, 1) := by decide +kernel
theorem d_N_renew_38 : decode b_N_renew 38 = .ok (.invokevirtual 41, 3) := by decide +kernel
theorem d_N_renew_41 : decode b_N_renew 41 = .ok (.iconst 1, 1) := by decide +kernel
theorem d_N_renew_42 : decode b_N_renew 42 = .ok (.ireturn, 1) := by decide +kernel
end
section
section RW
variable {own : String} {p : Program} {l : Launch} {e : Env} {R : Room} {s : State} {m : MethodId} {args : Array Value} {below : List Frame} {meth : Method} {c : Code} {Q : State → Prop} {X : wX} {nL : Nat} {L : List (Nat × Value)} {σ : sg} {pc : Nat} {st : List Value} {cc : ByteArray}
theorem g_N_9 (F : fx_ p s m args c cc nL R_N X) (hd : decode cc pc = .ok (.getfield 9, 3)) (k : vv_ p l e R s m args below meth c Q X nL L σ (pc + 3) (.ref (adr X 17) :: st)) : vv_ p l e R s m args below meth c Q X nL L σ pc (.ref (adr X 2) :: st) := qv_getr F (ref := R_N) (C := R_N) (T := F_N) (N := 5) in_N 2 rfl rfl 0 (by decide) (by decide +kernel) rfl rfl hd k
theorem g_N_18 (F : fx_ p s m args c cc nL R_N X) (hd : decode cc pc = .ok (.getfield 18, 3)) (k : vv_ p l e R s m args below meth c Q X nL L σ (pc + 3) (.int (nI (σ 2 2)) :: st)) : vv_ p l e R s m args below meth c Q X nL L σ pc (.ref (adr X 2) :: st) := qv_geti F (ref := R_N) (C := R_N) (T := F_N) (N := 5) in_N 2 rfl rfl 2 (by decide) (by decide +kernel) rfl rfl hd k
theorem p_N_18 (F : fx_ p s m args c cc nL R_N X) {x : Nat} (hd : decode cc pc = .ok (.putfield 18, 3)) (k : vv_ p l e R s m args below meth c Q X nL L (us σ 2 2 x) (pc + 3) st) : vv_ p l e R s m args below meth c Q X nL L σ pc (.int (nI x) :: .ref (adr X 2) :: st) := qv_put F (ref := R_N) (C := R_N) (T := F_N) (N := 5) in_N tf_N tt_N nn_N 2 rfl rfl rfl 2 (by decide) (by decide +kernel) rfl rfl (ty := .int) (by decide +kernel) rfl rfl rfl hd k
theorem i_N_34v (F : fx_ p s m args c cc nL R_N X) {v0 : Value} {rest : List Value} {d : Nat} {τ : sg} (hM : mt_ l X y_N_findReached w_N_findReached d [.ref (adr X 2), v0] σ (ev_ τ)) (hR : d + 1 ≤ R.frames ∧ 8 + (4 + 11) + 30 * d ≤ R.locals) (hw : (rest.map fun v => v.category).sum ≤ 8) (hd : decode cc pc = .ok (.invokevirtual 34, 3)) (k : vv_ p l e R s m args below meth c Q X nL L τ (pc + 3) rest) : vv_ p l e R s m args below meth c Q X nL L σ pc (v0 :: .ref (adr X 2) :: rest) :=
  qv_callV F (maxL := 4) (ret := none) (n := 1) (as := [v0]) (rest := rest) 2 rfl rfl (by decide +kernel) (by decide +kernel) (by decide +kernel) (by decide +kernel) (by decide +kernel) (by decide +kernel) hM rfl hR hw hd (fun r τ' hp => by obtain ⟨rfl, rfl⟩ := hp; exact k)
theorem i_N_38v (F : fx_ p s m args c cc nL R_N X) {v0 : Value} {rest : List Value} {d : Nat} {τ : sg} (hM : mt_ l X y_N_reckonCounts w_N_reckonCounts d [.ref (adr X 2), v0] σ (ev_ τ)) (hR : d + 1 ≤ R.frames ∧ 8 + (4 + 11) + 30 * d ≤ R.locals) (hw : (rest.map fun v => v.category).sum ≤ 8) (hd : decode cc pc = .ok (.invokevirtual 38, 3)) (k : vv_ p l e R s m args below meth c Q X nL L τ (pc + 3) rest) : vv_ p l e R s m args below meth c Q X nL L σ pc (v0 :: .ref (adr X 2) :: rest) :=
  qv_callV F (maxL := 4) (ret := none) (n := 1) (as := [v0]) (rest := rest) 2 rfl rfl (by decide +kernel) (by decide +kernel) (by decide +kernel) (by decide +kernel) (by decide +kernel) (by decide +kernel) hM rfl hR hw hd (fun r τ' hp => by obtain ⟨rfl, rfl⟩ := hp; exact k)
theorem i_N_41v (F : fx_ p s m args c cc nL R_N X) {v0 : Value} {rest : List Value} {d : Nat} {τ : sg} (hM : mt_ l X y_N_keepReckoned w_N_keepReckoned d [.ref (adr X 2), v0] σ (ev_ τ)) (hR : d + 1 ≤ R.frames ∧ 8 + (4 + 11) + 30 * d ≤ R.locals) (hw : (rest.map fun v => v.category).sum ≤ 8) (hd : decode cc pc = .ok (.invokevirtual 41, 3)) (k : vv_ p l e R s m args below meth c Q X nL L τ (pc + 3) rest) : vv_ p l e R s m args below meth c Q X nL L σ pc (v0 :: .ref (adr X 2) :: rest) :=
  qv_callV F (maxL := 4) (ret := none) (n := 1) (as := [v0]) (rest := rest) 2 rfl rfl (by decide +kernel) (by decide +kernel) (by decide +kernel) (by decide +kernel) (by decide +kernel) (by decide +kernel) hM rfl hR hw hd (fun r τ' hp => by obtain ⟨rfl, rfl⟩ := hp; exact k)
theorem i_N_57i (F : fx_ p s m args c cc nL R_N X) {v0 v1 v2 : Value} {rest : List Value} {d : Nat} {z : Int32} {τ : sg} (hM : mt_ l X y_N_broughtBefore w_N_broughtBefore d [.ref (adr X 2), v0, v1, v2] σ (ei_ z τ)) (hR : d + 1 ≤ R.frames ∧ 8 + (6 + 11) + 30 * d ≤ R.locals) (hw : (rest.map fun v => v.category).sum ≤ 8) (hd : decode cc pc = .ok (.invokevirtual 57, 3)) (k : vv_ p l e R s m args below meth c Q X nL L τ (pc + 3) (.int z :: rest)) : vv_ p l e R s m args below meth c Q X nL L σ pc (v2 :: v1 :: v0 :: .ref (adr X 2) :: rest) :=
  qv_callV F (maxL := 6) (ret := (some .int)) (n := 3) (as := [v0, v1, v2]) (rest := rest) 2 rfl rfl (by decide +kernel) (by decide +kernel) (by decide +kernel) (by decide +kernel) (by decide +kernel) (by decide +kernel) hM rfl hR hw hd (fun r τ' hp => by obtain ⟨rfl, rfl⟩ := hp; exact k)
end RW
end
section
/-! contexts: the counts -/
set_option maxRecDepth 100000 in
set_option maxHeartbeats 4000000 in
theorem c_N_reckonCounts (l : Launch) (X : wX) (σ : sg) (hn : σ 1 7 ≤ 8) (h11 : ∀ k, σ 11 k < 4) (h12 : ∀ k, σ 12 k < 4) (hC : σ 19 = M4_ σ (σ 1 7)) : mt_ l X y_N_reckonCounts w_N_reckonCounts 4 [.ref (adr X 2), .ref (adr X 1)] σ (ev_ (ua σ 20 (S4_ σ (σ 1 7)))) := by
  refine mt_of (own := R_N) rfl pl_N (Nat.le_of_ble_eq_true rfl) ?_
  intro zp ze zs zm za zb zt zc F hr hlk
  refine qv_sub (L' := [(0, _), (1, _)]) [0, 1] rfl ?_
  have hrf : rf_ σ = cr_ σ (σ 1 7) := by
    show (fun a b => (σ 19 a).testBit b) = fun a b => (mk_ (wc_ (c0_ σ (σ 1 7))) a).testBit b
    rw [hC]
    rfl
  have h19 : ∀ k, k < 4 → σ 19 k < 16 := fun k _ => by rw [hC]; exact mk_lt _ _
  have hok := ok_cr h11 h12 (σ 1 7)
  refine qv_aload_n F d_N_reckonCounts_0 0 rfl ?_
  refine g_N_25 F d_N_reckonCounts_1 ?_
  refine qv_iconst F (nI 1) d_N_reckonCounts_4 ic_1 ?_
  refine i_N_28v F (c_A_fill l X σ 20 4 1 rfl (by decide)) (by decide) (Nat.le_of_ble_eq_true rfl) d_N_reckonCounts_5 ?_
  refine qv_iconst F (nI 0) d_N_reckonCounts_8 ic_0 ?_
  refine qv_istore_n (L' := [(2, _), (0, _), (1, _)]) F d_N_reckonCounts_9 (by decide) rfl ?_
  have lp := lu_up (fun r (_ : Unit) => vv_ zp l ze (rr_ 4) zs zm za zb zt zc (MQ zb (mq_ X (ev_ (ua σ 20 (S4_ σ (σ 1 7))))) za zs 0 0 (aw_ X)) X 4 [(2, .int (nI r)), (0, .ref (adr X 2)), (1, .ref (adr X 1))] (ua σ 20 (sn_ (f1_ σ (cr_ σ (σ 1 7)) (σ 1 7)) (fun _ => 1) r)) 10 []) (fun _ _ => True) 4 ?_ ?_ 0 () (Nat.zero_le _) trivial
  · exact lp
  · intro _ _
    refine qv_iload_n F d_N_reckonCounts_10 0 rfl ?_
    refine qv_iconst F (nI 4) d_N_reckonCounts_11 ic_4 ?_
    refine qv_icmpge F d_N_reckonCounts_12 rfl (by decide) (by decide) (fun hb => ?_) (fun hb => ?_)
    ·
      exact qv_ret F hr hlk d_N_reckonCounts_54 (ev_of rfl)
    ·
      exact absurd hb (by decide)
  · intro r _ hr4 _ ih
    have ih := ih () trivial
    have hB := sn_hb hok hn r
    refine qv_iload_n F d_N_reckonCounts_10 0 rfl ?_
    refine qv_iconst F (nI 4) d_N_reckonCounts_11 ic_4 ?_
    refine qv_icmpge F d_N_reckonCounts_12 rfl (by omega) (by omega) (fun hb => ?_) (fun hb => ?_)
    ·
      omega
    ·
      refine qv_iconst F (nI 0) d_N_reckonCounts_15 ic_0 ?_
      refine qv_istore_n (L' := [(3, _), (2, _), (0, _), (1, _)]) F d_N_reckonCounts_16 (by decide) rfl ?_
      have lp2 := lu_up (fun k (_ : Unit) => vv_ zp l ze (rr_ 4) zs zm za zb zt zc (MQ zb (mq_ X (ev_ (ua σ 20 (S4_ σ (σ 1 7))))) za zs 0 0 (aw_ X)) X 4 [(3, .int (nI k)), (2, .int (nI r)), (0, .ref (adr X 2)), (1, .ref (adr X 1))] (ua σ 20 (sw_ (f1_ σ (cr_ σ (σ 1 7)) (σ 1 7)) (sn_ (f1_ σ (cr_ σ (σ 1 7)) (σ 1 7)) (fun _ => 1) r) k)) 17 []) (fun _ _ => True) 4 ?_ ?_ 0 () (Nat.zero_le _) trivial
      · exact lp2
      · intro _ _
        refine qv_iload_n F d_N_reckonCounts_17 0 rfl ?_
        refine qv_iconst F (nI 4) d_N_reckonCounts_18 ic_4 ?_
        refine qv_icmpge F d_N_reckonCounts_19 rfl (by decide) (by decide) (fun hb => ?_) (fun hb => ?_)
        ·
          refine qv_sub (L' := [(2, _), (0, _), (1, _)]) [1, 2, 3] rfl ?_
          refine qv_iinc (L' := [(2, _), (0, _), (1, _)]) F _ d_N_reckonCounts_48 0 rfl (ii_1 _) (by decide) rfl ?_
          refine qv_goto F d_N_reckonCounts_51 rfl ?_
          exact ih
        ·
          exact absurd hb (by decide)
      · intro k _ hk _ ih2
        have ih2 := ih2 () trivial
        have hB2 := sw_hb hok hn hB k (by omega)
        have e1 : sw_ (f1_ σ (cr_ σ (σ 1 7)) (σ 1 7)) (sn_ (f1_ σ (cr_ σ (σ 1 7)) (σ 1 7)) (fun _ => 1) r) (k + 1) = va_up (sw_ (f1_ σ (cr_ σ (σ 1 7)) (σ 1 7)) (sn_ (f1_ σ (cr_ σ (σ 1 7)) (σ 1 7)) (fun _ => 1) r) k) k (f1_ σ (cr_ σ (σ 1 7)) (σ 1 7) (sw_ (f1_ σ (cr_ σ (σ 1 7)) (σ 1 7)) (sn_ (f1_ σ (cr_ σ (σ 1 7)) (σ 1 7)) (fun _ => 1) r) k) k) := rfl
        rw [e1] at ih2
        generalize sw_ (f1_ σ (cr_ σ (σ 1 7)) (σ 1 7)) (sn_ (f1_ σ (cr_ σ (σ 1 7)) (σ 1 7)) (fun _ => 1) r) k = g at hB2 ih2 ⊢
        have hbr := br_b hok hn hB2 hk (Nat.le_refl (σ 1 7))
        have h512 := pw_le (C := cr_ σ (σ 1 7)) hk
        have e2 : br_ (ua σ 20 g) (rf_ (ua σ 20 g)) ((ua σ 20 g) 20) k (σ 1 7) = br_ σ (cr_ σ (σ 1 7)) g k (σ 1 7) := by
          rw [br_cg (t := ua σ 20 g) (t' := σ) rfl rfl]
          show br_ σ (rf_ σ) g k (σ 1 7) = _
          rw [hrf]
        refine qv_iload_n F d_N_reckonCounts_17 0 rfl ?_
        refine qv_iconst F (nI 4) d_N_reckonCounts_18 ic_4 ?_
        refine qv_icmpge F d_N_reckonCounts_19 rfl (by omega) (by omega) (fun hb => ?_) (fun hb => ?_)
        ·
          omega
        ·
          refine qv_aload_n F d_N_reckonCounts_22 2 rfl ?_
          refine g_N_25 F d_N_reckonCounts_23 ?_
          refine qv_iload_n F d_N_reckonCounts_26 0 rfl ?_
          refine qv_iconst F (nI 1) d_N_reckonCounts_27 ic_1 ?_
          refine qv_aload_n F d_N_reckonCounts_28 2 rfl ?_
          refine qv_aload_n F d_N_reckonCounts_29 3 rfl ?_
          refine qv_aload_n F d_N_reckonCounts_30 3 rfl ?_
          refine g_N_44 F d_N_reckonCounts_31 ?_
          refine qv_iload_n F d_N_reckonCounts_34 0 rfl ?_
          refine i_N_57i F (c_N_broughtBefore l X (ua σ 20 g) (σ 1 7) k hn hk h11 h12 h19) (by decide) (Nat.le_of_ble_eq_true rfl) d_N_reckonCounts_35 ?_
          rw [e2]
          refine qv_max F (by decide) (by omega) (by decide +kernel) (by decide +kernel) (by decide +kernel) (by decide +kernel) (by decide) (Nat.le_of_ble_eq_true rfl) d_N_reckonCounts_38 ?_
          refine sv_20 F (by omega) d_N_reckonCounts_41 ?_
          refine qv_st (us_ua σ 20 g k (f1_ σ (cr_ σ (σ 1 7)) (σ 1 7) g k)) ?_
          refine qv_iinc (L' := [(3, _), (2, _), (0, _), (1, _)]) F _ d_N_reckonCounts_42 0 rfl (ii_1 _) (by decide) rfl ?_
          refine qv_goto F d_N_reckonCounts_45 rfl ?_
          exact ih2
set_option maxRecDepth 100000 in
set_option maxHeartbeats 4000000 in
theorem c_N_keepReckoned (l : Launch) (X : wX) (σ : sg) (hn : σ 1 7 ≤ 8) (h11 : ∀ k, σ 11 k < 4) (h12 : ∀ k, σ 12 k < 4) (h19 : ∀ k, k < 4 → σ 19 k < 16) : mt_ l X y_N_keepReckoned w_N_keepReckoned 4 [.ref (adr X 2), .ref (adr X 1)] σ (ev_ (ua (us (ua σ 17 (σ 20)) 2 2 (σ 1 7)) 18 (fun k => if k < σ 1 7 then ba_ σ (rf_ σ) (σ 20) k else σ 18 k))) := by
  refine mt_of (own := R_N) rfl pl_N (Nat.le_of_ble_eq_true rfl) ?_
  intro zp ze zs zm za zb zt zc F hr hlk
  refine qv_sub (L' := [(0, _), (1, _)]) [0, 1] rfl ?_
  refine qv_aload_n F d_N_keepReckoned_0 0 rfl ?_
  refine g_N_25 F d_N_keepReckoned_1 ?_
  refine qv_iconst F (nI 0) d_N_keepReckoned_4 ic_0 ?_
  refine qv_aload_n F d_N_keepReckoned_5 0 rfl ?_
  refine g_N_9 F d_N_keepReckoned_6 ?_
  refine qv_iconst F (nI 0) d_N_keepReckoned_9 ic_0 ?_
  refine qv_iconst F (nI 4) d_N_keepReckoned_10 ic_4 ?_
  refine qv_acopy F 20 17 rfl rfl (by decide) (by decide +kernel) (by decide +kernel) (by decide +kernel) (by decide +kernel) (by decide) (Nat.le_of_ble_eq_true rfl) d_N_keepReckoned_11 ?_
  refine qv_aload_n F d_N_keepReckoned_14 0 rfl ?_
  refine qv_aload_n F d_N_keepReckoned_15 1 rfl ?_
  refine g_N_44 F d_N_keepReckoned_16 ?_
  refine p_N_18 F d_N_keepReckoned_19 ?_
  refine qv_iconst F (nI 0) d_N_keepReckoned_22 ic_0 ?_
  refine qv_istore_n (L' := [(2, _), (0, _), (1, _)]) F d_N_keepReckoned_23 (by decide) rfl ?_
  have lp := lu_up (fun i (g : Nat → Nat) => vv_ zp l ze (rr_ 4) zs zm za zb zt zc (MQ zb (mq_ X (ev_ (ua (us (ua σ 17 (σ 20)) 2 2 (σ 1 7)) 18 (fun k => if k < σ 1 7 then ba_ σ (rf_ σ) (σ 20) k else σ 18 k)))) za zs 0 0 (aw_ X)) X 4 [(2, .int (nI i)), (0, .ref (adr X 2)), (1, .ref (adr X 1))] (ua (us (ua σ 17 (σ 20)) 2 2 (σ 1 7)) 18 g) 24 []) (fun i g => ∀ k, g k = if k < i then ba_ σ (rf_ σ) (σ 20) k else σ 18 k) (σ 1 7) ?_ ?_ 0 (σ 18) (Nat.zero_le _) (fun k => by rw [if_neg (by omega)])
  · exact qv_st (ua_id (us (ua σ 17 (σ 20)) 2 2 (σ 1 7)) 18).symm lp
  · intro g hg
    have e : g = fun k => if k < σ 1 7 then ba_ σ (rf_ σ) (σ 20) k else σ 18 k := by funext k; exact hg k
    subst e
    refine qv_iload_n F d_N_keepReckoned_24 0 rfl ?_
    refine qv_aload_n F d_N_keepReckoned_25 1 rfl ?_
    refine g_N_18 F d_N_keepReckoned_26 ?_
    refine qv_icmpge F d_N_keepReckoned_29 rfl (show σ 1 7 < 2 ^ 31 by omega) (show σ 1 7 < 2 ^ 31 by omega) (fun hb => ?_) (fun hb => ?_)
    ·
      exact qv_ret F hr hlk d_N_keepReckoned_71 (ev_of rfl)
    ·
      exact absurd (show σ 1 7 < σ 1 7 from hb) (by omega)
  · intro i g hi hg ih
    have hst : ∀ x, x = ba_ σ (rf_ σ) (σ 20) i → ∀ k, va_up g i x k = if k < i + 1 then ba_ σ (rf_ σ) (σ 20) k else σ 18 k := by
      intro x hx k
      by_cases e : k = i
      · subst e; rw [up_eq, if_pos (by omega), hx]
      · rw [up_ne e, hg k]
        by_cases e2 : k < i
        · rw [if_pos e2, if_pos (by omega)]
        · rw [if_neg e2, if_neg (by omega)]
    refine qv_iload_n F d_N_keepReckoned_24 0 rfl ?_
    refine qv_aload_n F d_N_keepReckoned_25 1 rfl ?_
    refine g_N_18 F d_N_keepReckoned_26 ?_
    refine qv_icmpge F d_N_keepReckoned_29 rfl (by omega) (show σ 1 7 < 2 ^ 31 by omega) (fun hb => ?_) (fun hb => ?_)
    ·
      exact absurd (show σ 1 7 ≤ i from hb) (by omega)
    ·
      refine qv_aload_n F d_N_keepReckoned_32 1 rfl ?_
      refine qv_aload_n F d_N_keepReckoned_33 2 rfl ?_
      refine qv_iload_n F d_N_keepReckoned_34 0 rfl ?_
      refine i_N_67i F (c_N_isOuter l X _ i (by omega) h11 h12 h19) (by decide) (Nat.le_of_ble_eq_true rfl) d_N_keepReckoned_35 ?_
      refine qv_istore_n (L' := [(3, _), (2, _), (0, _), (1, _)]) F d_N_keepReckoned_38 (by decide) rfl ?_
      refine qv_aload_n F d_N_keepReckoned_39 2 rfl ?_
      refine g_N_15 F d_N_keepReckoned_40 ?_
      refine qv_iload_n F d_N_keepReckoned_43 1 rfl ?_
      refine qv_iload_n F d_N_keepReckoned_44 0 rfl ?_
      refine qv_ifeqB F d_N_keepReckoned_45 rfl (fun hb => ?_) (fun hb => ?_)
      ·
        have hb : ou_ σ (rf_ σ) i = false := hb
        refine qv_iconst F (nI 0) d_N_keepReckoned_63 ic_0 ?_
        refine sv_18 F (show i < 8 by omega) d_N_keepReckoned_64 ?_
        refine qv_st (us_ua (us (ua σ 17 (σ 20)) 2 2 (σ 1 7)) 18 g i 0) ?_
        refine qv_sub (L' := [(2, _), (0, _), (1, _)]) [1, 2, 3] rfl ?_
        refine qv_iinc (L' := [(2, _), (0, _), (1, _)]) F _ d_N_keepReckoned_65 0 rfl (ii_1 _) (by decide) rfl ?_
        refine qv_goto F d_N_keepReckoned_68 rfl ?_
        exact ih _ (hst 0 (by unfold ba_; rw [if_neg (by rw [hb]; decide)]))
      ·
        have hb : ou_ σ (rf_ σ) i = true := hb
        refine qv_aload_n F d_N_keepReckoned_48 2 rfl ?_
        refine qv_aload_n F d_N_keepReckoned_49 3 rfl ?_
        refine qv_iload_n F d_N_keepReckoned_50 1 rfl ?_
        refine qv_aload_n F d_N_keepReckoned_51 3 rfl ?_
        refine g_N_50 F d_N_keepReckoned_52 ?_
        refine qv_iload_n F d_N_keepReckoned_55 1 rfl ?_
        refine ld_12 F (show i < 8 by omega) d_N_keepReckoned_56 ?_
        refine i_N_57i F (c_N_broughtBefore l X _ i (σ 12 i) (by omega) (h12 i) h11 h12 h19) (by decide) (Nat.le_of_ble_eq_true rfl) d_N_keepReckoned_57 ?_
        refine qv_goto F d_N_keepReckoned_60 rfl ?_
        refine sv_18 F (show i < 8 by omega) d_N_keepReckoned_64 ?_
        refine qv_st (us_ua (us (ua σ 17 (σ 20)) 2 2 (σ 1 7)) 18 g i _) ?_
        refine qv_sub (L' := [(2, _), (0, _), (1, _)]) [1, 2, 3] rfl ?_
        refine qv_iinc (L' := [(2, _), (0, _), (1, _)]) F _ d_N_keepReckoned_65 0 rfl (ii_1 _) (by decide) rfl ?_
        refine qv_goto F d_N_keepReckoned_68 rfl ?_
        refine ih _ (hst _ ?_)
        unfold ba_
        rw [if_pos hb, br_cg (t := ua (us (ua σ 17 (σ 20)) 2 2 (σ 1 7)) 18 g) (t' := σ) rfl rfl]
        rfl
set_option maxRecDepth 100000 in
set_option maxHeartbeats 4000000 in
theorem c_N_renew (l : Launch) (X : wX) (σ : sg) (hn : σ 1 7 ≤ 8) (h11 : ∀ k, σ 11 k < 4) (h12 : ∀ k, σ 12 k < 4) : mt_ l X y_N_renew w_N_renew 5 [.ref (adr X 2), .ref (adr X 1)] σ (ei_ (nI (gd_ (so_ σ (cr_ σ (σ 1 7)) (σ 1 7))).toNat) (if gd_ (so_ σ (cr_ σ (σ 1 7)) (σ 1 7)) = true then ny_ σ else nn_ σ)) := by
  refine mt_of (own := R_N) rfl pl_N (Nat.le_of_ble_eq_true rfl) ?_
  intro zp ze zs zm za zb zt zc F hr hlk
  refine qv_sub (L' := [(0, _), (1, _)]) [0, 1] rfl ?_
  have hok := ok_cr h11 h12 (σ 1 7)
  have hso : ∀ k, k < 4 → S4_ σ (σ 1 7) k = so_ σ (cr_ σ (σ 1 7)) (σ 1 7) k := fun k hk => sn_1 hok _ hk
  have hB : hb_ (cr_ σ (σ 1 7)) (S4_ σ (σ 1 7)) := sn_hb hok hn 4
  have h19 : ∀ k, k < 4 → M4_ σ (σ 1 7) k < 16 := fun k _ => mk_lt _ _
  refine qv_aload_n F d_N_renew_0 0 rfl ?_
  refine qv_aload_n F d_N_renew_1 1 rfl ?_
  refine i_N_34v F (c_N_findReached l X σ hn h11 h12) (by decide) (Nat.le_of_ble_eq_true rfl) d_N_renew_2 ?_
  refine qv_aload_n F d_N_renew_5 0 rfl ?_
  refine qv_aload_n F d_N_renew_6 1 rfl ?_
  refine i_N_38v F (c_N_reckonCounts l X (ua σ 19 (M4_ σ (σ 1 7))) hn h11 h12 (by rw [ua_eq]; unfold M4_; rw [c0_cg (t := ua σ 19 (mk_ (wc_ (c0_ σ (σ 1 7))))) (t' := σ) rfl rfl]; rfl)) (by decide) (Nat.le_of_ble_eq_true rfl) d_N_renew_7 ?_
  have e0 : S4_ (ua σ 19 (M4_ σ (σ 1 7))) (σ 1 7) = S4_ σ (σ 1 7) := by
    have e1 : c0_ (ua σ 19 (M4_ σ (σ 1 7))) = c0_ σ := c0_cg rfl rfl
    have e2 : br_ (ua σ 19 (M4_ σ (σ 1 7))) = br_ σ := br_cg rfl rfl
    unfold S4_ f1_ cr_
    rw [e1, e2]
  refine qv_st (σ' := nn_ σ) (by show ua (ua σ 19 (M4_ σ (σ 1 7))) 20 (S4_ (ua σ 19 (M4_ σ (σ 1 7))) (σ 1 7)) = _; rw [e0]; rfl) ?_
  refine qv_iconst F (nI 0) d_N_renew_10 ic_0 ?_
  refine qv_istore_n (L' := [(2, _), (0, _), (1, _)]) F d_N_renew_11 (by decide) rfl ?_
  have lp := lu_up (fun i (_ : Unit) => vv_ zp l ze (rr_ 5) zs zm za zb zt zc (MQ zb (mq_ X (ei_ (nI (gd_ (so_ σ (cr_ σ (σ 1 7)) (σ 1 7))).toNat) (if gd_ (so_ σ (cr_ σ (σ 1 7)) (σ 1 7)) = true then ny_ σ else nn_ σ))) za zs 0 0 (aw_ X)) X 3 [(2, .int (nI i)), (0, .ref (adr X 2)), (1, .ref (adr X 1))] (nn_ σ) 12 []) (fun i _ => ∀ k, k < i → S4_ σ (σ 1 7) k ≤ 8) 4 ?_ ?_ 0 () (Nat.zero_le _) (fun k hk => by omega)
  · exact lp
  · intro _ hI
    have hg : gd_ (so_ σ (cr_ σ (σ 1 7)) (σ 1 7)) = true := by rw [← gd_cg hso]; exact gd_t hI
    rw [hg, if_pos rfl]
    refine qv_iload_n F d_N_renew_12 0 rfl ?_
    refine qv_iconst F (nI 4) d_N_renew_13 ic_4 ?_
    refine qv_icmpge F d_N_renew_14 rfl (by decide) (by decide) (fun hb => ?_) (fun hb => ?_)
    ·
      refine qv_aload_n F d_N_renew_36 1 rfl ?_
      refine qv_aload_n F d_N_renew_37 2 rfl ?_
      refine i_N_41v F (c_N_keepReckoned l X (nn_ σ) hn h11 h12 h19) (by decide) (Nat.le_of_ble_eq_true rfl) d_N_renew_38 ?_
      refine qv_iconst F (nI 1) d_N_renew_41 ic_1 ?_
      refine qv_ext 17 (z := false) (n := 4) (g := ct2_ σ (σ 1 7)) rfl (fun k hk => ?_) ?_
      · show ct2_ σ (σ 1 7) k = S4_ σ (σ 1 7) k
        unfold ct2_
        rw [if_pos hk, hso k hk]
      · refine qv_st (σ' := ny_ σ) ?_ ?_
        · have e3 : rf_ (nn_ σ) = cr_ σ (σ 1 7) := rfl
          have e4 : (fun k => if k < nn_ σ 1 7 then ba_ (nn_ σ) (rf_ (nn_ σ)) (nn_ σ 20) k else nn_ σ 18 k) = fb_ σ (σ 1 7) (σ 18) := by
            funext k
            show (if k < σ 1 7 then ba_ (nn_ σ) (cr_ σ (σ 1 7)) (S4_ σ (σ 1 7)) k else σ 18 k) = if k < σ 1 7 then ba_ σ (cr_ σ (σ 1 7)) (so_ σ (cr_ σ (σ 1 7)) (σ 1 7)) k else σ 18 k
            by_cases hk : k < σ 1 7
            · rw [if_pos hk, if_pos hk, ← ba_f h11 hso k]
              unfold ba_
              rw [br_cg (t := nn_ σ) (t' := σ) rfl rfl]
              rfl
            · rw [if_neg hk, if_neg hk]
          rw [e4]
          funext b
          unfold ny_
          by_cases b18 : b = 18
          · subst b18; rw [ua_eq, ua_ne (by decide), ua_eq]
          · by_cases b17 : b = 17
            · subst b17; rw [ua_eq]; rfl
            · rw [ua_ne b17, ua_ne b18, ua_ne b18]
              unfold us
              by_cases b2 : b = 2
              · subst b2; rw [ua_eq, ua_eq]; rfl
              · rw [ua_ne b2, ua_ne b2, ua_ne b17, ua_ne b17]
                rfl
        ·
          exact qv_zret F hr hlk (by first | exact Or.inl rfl | exact Or.inr rfl | exact bz_01 _) d_N_renew_42 (ei_of rfl rfl)
    ·
      exact absurd hb (by decide)
  · intro i _ hi hI ih
    have b1 := hB i hi
    have b2 := pw_le (C := cr_ σ (σ 1 7)) hi
    refine qv_iload_n F d_N_renew_12 0 rfl ?_
    refine qv_iconst F (nI 4) d_N_renew_13 ic_4 ?_
    refine qv_icmpge F d_N_renew_14 rfl (by omega) (by omega) (fun hb => ?_) (fun hb => ?_)
    ·
      omega
    ·
      refine qv_aload_n F d_N_renew_17 1 rfl ?_
      refine g_N_25 F d_N_renew_18 ?_
      refine qv_iload_n F d_N_renew_21 0 rfl ?_
      refine ld_20 F hi d_N_renew_22 ?_
      refine qv_bipush F (nI 8) d_N_renew_23 bic_8 ?_
      refine qv_icmple F d_N_renew_25 rfl (show S4_ σ (σ 1 7) i < 2 ^ 31 by omega) (by omega) (fun hb => ?_) (fun hb => ?_)
      ·
        have hb : S4_ σ (σ 1 7) i ≤ 8 := hb
        refine qv_iinc (L' := [(2, _), (0, _), (1, _)]) F _ d_N_renew_30 0 rfl (ii_1 _) (by decide) rfl ?_
        refine qv_goto F d_N_renew_33 rfl ?_
        refine ih () (fun k hk => ?_)
        by_cases e : k = i
        · subst e; exact hb
        · exact hI k (by omega)
      ·
        have hb : 8 < S4_ σ (σ 1 7) i := hb
        have hg : gd_ (so_ σ (cr_ σ (σ 1 7)) (σ 1 7)) = false := by rw [← gd_cg hso]; exact gd_f hi hb
        rw [hg]
        refine qv_iconst F (nI 0) d_N_renew_28 ic_0 ?_
        exact qv_zret F hr hlk (by first | exact Or.inl rfl | exact Or.inr rfl | exact bz_01 _) d_N_renew_29 (ei_of rfl rfl)
end
section
/-! the rows of a diagram: where each number's bits lie -/
def shT : List Nat := [7, 3, 0, 7, 0, 4, 3, 6, 0, 0, 6, 3, 4, 0, 7, 0, 3, 7, 4, 3, 0, 4, 0, 1, 3, 6, 0, 0, 6, 3, 1, 0, 4, 0, 3, 4]
def sh_ (w o k : Nat) : Nat := shT.getD ((w * 6 + o) * 3 + k) 0
def rw_ (w : Nat) : Nat := if w = 0 then 1024 else 128
def nb2_ (w : Nat) : Nat := if w = 0 then 16 else 2
def ix_ (w o a b c : Nat) : Nat := a * 2 ^ sh_ w o 0 + b * 2 ^ sh_ w o 1 + c * 2 ^ sh_ w o 2
def k0_ (w o k : Nat) : Nat := k / 2 ^ sh_ w o 0 % 8
def k1_ (w o k : Nat) : Nat := k / 2 ^ sh_ w o 1 % nb2_ w
def k2_ (w o k : Nat) : Nat := k / 2 ^ sh_ w o 2 % 8
theorem ix_12 {P : Nat → Nat → Prop} (h00 : P 0 0) (h01 : P 0 1) (h02 : P 0 2) (h03 : P 0 3) (h04 : P 0 4) (h05 : P 0 5) (h10 : P 1 0) (h11 : P 1 1) (h12 : P 1 2) (h13 : P 1 3) (h14 : P 1 4) (h15 : P 1 5) {w o : Nat} (hw : w < 2) (ho : o < 6) : P w o := by
  have e : w = 0 ∨ w = 1 := by omega
  have e2 : o = 0 ∨ o = 1 ∨ o = 2 ∨ o = 3 ∨ o = 4 ∨ o = 5 := by omega
  rcases e with rfl | rfl <;> rcases e2 with rfl | rfl | rfl | rfl | rfl | rfl <;> assumption
theorem ix_lt {w o : Nat} (hw : w < 2) (ho : o < 6) : ∀ a b c, a < 8 → b < nb2_ w → c < 8 → ix_ w o a b c < rw_ w := by
  refine ix_12 (P := fun w o => ∀ a b c, a < 8 → b < nb2_ w → c < 8 → ix_ w o a b c < rw_ w) ?_ ?_ ?_ ?_ ?_ ?_ ?_ ?_ ?_ ?_ ?_ ?_ hw ho <;> (intro a b c ha hb hc; simp only [ix_, rw_, nb2_, sh_, shT, List.getD_eq_getElem?_getD] at *; simp at *; omega)
theorem ix_iff {w o : Nat} (hw : w < 2) (ho : o < 6) : ∀ k a b c, k < rw_ w → a < 8 → b < nb2_ w → c < 8 → (k = ix_ w o a b c ↔ k0_ w o k = a ∧ k1_ w o k = b ∧ k2_ w o k = c) := by
  refine ix_12 (P := fun w o => ∀ k a b c, k < rw_ w → a < 8 → b < nb2_ w → c < 8 → (k = ix_ w o a b c ↔ k0_ w o k = a ∧ k1_ w o k = b ∧ k2_ w o k = c)) ?_ ?_ ?_ ?_ ?_ ?_ ?_ ?_ ?_ ?_ ?_ ?_ hw ho <;> (intro k a b c hk ha hb hc; simp only [ix_, rw_, nb2_, k0_, k1_, k2_, sh_, shT, List.getD_eq_getElem?_getD] at *; simp at *; omega)
theorem k0_lt (w o k : Nat) : k0_ w o k < 8 := Nat.mod_lt _ (by decide)
theorem k1_lt (w o k : Nat) : k1_ w o k < nb2_ w := Nat.mod_lt _ (by unfold nb2_; by_cases e : w = 0; rw [if_pos e]; decide; rw [if_neg e]; decide)
theorem kk2_lt (w o k : Nat) : k2_ w o k < 8 := Nat.mod_lt _ (by decide)
/-- the row of bits of a relation f -/
def fn_ (w o : Nat) (f : Nat → Nat) (k : Nat) : Nat := ((f (k0_ w o k * nb2_ w + k1_ w o k)).testBit (k2_ w o k)).toNat
theorem fn_2 (w o : Nat) (f : Nat → Nat) (k : Nat) : fn_ w o f k < 2 := by
  have := bn_le ((f (k0_ w o k * nb2_ w + k1_ w o k)).testBit (k2_ w o k))
  unfold fn_
  omega
def dr_ (w o a b x : Nat) : Nat → (Nat → Nat) → Nat → Nat := it_ (fun c g => va_up g (ix_ w o a b c) (x.testBit c).toNat)
theorem dr_at {w o : Nat} (hw : w < 2) (ho : o < 6) {a b x k : Nat} {g : Nat → Nat} (ha : a < 8) (hb : b < nb2_ w) (hk : k < rw_ w) : ∀ n, n ≤ 8 → dr_ w o a b x n g k = if k0_ w o k = a ∧ k1_ w o k = b ∧ k2_ w o k < n then (x.testBit (k2_ w o k)).toNat else g k
  | 0, _ => by rw [if_neg (by omega)]; rfl
  | n + 1, hn => by
    have ih := dr_at hw ho (x := x) (g := g) ha hb hk n (by omega)
    have hi := ix_iff hw ho k a b n hk ha hb (by omega)
    show va_up (dr_ w o a b x n g) (ix_ w o a b n) (x.testBit n).toNat k = _
    by_cases e : k = ix_ w o a b n
    · obtain ⟨q1, q2, q3⟩ := hi.mp e
      rw [if_pos ⟨q1, q2, by omega⟩, q3]
      subst e
      exact up_eq _ _ _
    · rw [up_ne e, ih]
      have hne : ¬ (k0_ w o k = a ∧ k1_ w o k = b ∧ k2_ w o k = n) := fun z => e (hi.mpr z)
      by_cases q : k0_ w o k = a ∧ k1_ w o k = b ∧ k2_ w o k < n
      · rw [if_pos q, if_pos ⟨q.1, q.2.1, by omega⟩]
      · rw [if_neg q, if_neg (by omega)]
theorem dr_out {w o : Nat} (hw : w < 2) (ho : o < 6) {a b x k : Nat} {g : Nat → Nat} (ha : a < 8) (hb : b < nb2_ w) (hk : ¬ k < rw_ w) : ∀ n, n ≤ 8 → dr_ w o a b x n g k = g k
  | 0, _ => rfl
  | n + 1, hn => by
    have hi := ix_lt hw ho a b n ha hb (by omega)
    show va_up (dr_ w o a b x n g) (ix_ w o a b n) (x.testBit n).toNat k = _
    rw [up_ne (by omega)]
    exact dr_out hw ho ha hb hk n (by omega)
theorem sh_7 {w o : Nat} (hw : w < 2) (ho : o < 6) : sh_ w o 0 ≤ 7 ∧ sh_ w o 1 ≤ 7 ∧ sh_ w o 2 ≤ 7 :=
  ix_12 (P := fun w o => sh_ w o 0 ≤ 7 ∧ sh_ w o 1 ≤ 7 ∧ sh_ w o 2 ≤ 7) (by decide) (by decide) (by decide) (by decide) (by decide) (by decide) (by decide) (by decide) (by decide) (by decide) (by decide) (by decide) hw ho
theorem mul_p2 {a s : Nat} (ha : a < 16) (hs : s ≤ 7) : a * 2 ^ s < 2 ^ 12 := by
  have h1 : 2 ^ s ≤ 2 ^ 7 := Nat.pow_le_pow_right (by decide) hs
  have h2 : a * 2 ^ s ≤ 15 * 2 ^ 7 := Nat.mul_le_mul (by omega) h1
  omega
/-- only the first 2 ^ q places count -/
theorem sa_cg {f g : Nat → Nat} {a b : Nat} : ∀ n, (∀ k, k < n → f (a + k) = g (a + k) ∧ f (b + k) = g (b + k)) → sa_ f a b n = sa_ g a b n
  | 0, _ => rfl
  | n + 1, h => by
    show (sa_ f a b n && (f (a + n) == f (b + n))) = (sa_ g a b n && (g (a + n) == g (b + n)))
    rw [sa_cg n (fun k hk => h k (by omega)), (h n (by omega)).1, (h n (by omega)).2]
theorem blk_le {s i n : Nat} (hi : i < n) : 2 * s * i + 2 * s ≤ 2 * s * n := by
  have h : 2 * s * (i + 1) ≤ 2 * s * n := Nat.mul_le_mul_left _ (by omega)
  rw [Nat.mul_succ] at h
  exact h
theorem nb_cg {f g : Nat → Nat} {s n i : Nat} (h : ∀ k, k < 2 * s * n → f k = g k) (hi : i < n) : ∀ j, j ≤ i → nb_ f s i j = nb_ g s i j
  | 0, _ => rfl
  | j + 1, hj => by
    have b1 := blk_le (s := s) hi
    have b2 := blk_le (s := s) (show j < n by omega)
    show (nb_ f s i j && !sa_ f (2 * s * i) (2 * s * j) (2 * s)) = (nb_ g s i j && !sa_ g (2 * s * i) (2 * s * j) (2 * s))
    rw [nb_cg h hi j (by omega), sa_cg (2 * s) (fun k hk => ⟨h _ (by omega), h _ (by omega)⟩)]
theorem ct_cg {f g : Nat → Nat} {s n : Nat} (h : ∀ k, k < 2 * s * n → f k = g k) : ct_ f s n = ct_ g s n := by
  refine sm_eq n (fun i hi => ?_)
  have b1 := blk_le (s := s) hi
  have e : ne_ f s i = ne_ g s i := by
    unfold ne_
    rw [nb_cg h hi i (Nat.le_refl _), sa_cg s (fun k hk => ⟨h _ (by omega), h _ (by omega)⟩)]
  rw [e]
theorem lv2_cg {f g : Nat → Nat} {q : Nat} (h : ∀ k, k < 2 ^ q → f k = g k) : lv2_ f q q = lv2_ g q q := by
  refine sm_eq q (fun u hu => ct_cg (fun k hk => h k ?_))
  have e : 2 * 2 ^ u * 2 ^ (q - 1 - u) = 2 ^ q := by
    rw [Nat.mul_assoc, ← Nat.pow_add, Nat.mul_comm, ← Nat.pow_succ]
    congr 1
    omega
  rw [e] at hk
  exact hk
end
section
abbrev b_P_size : ByteArray := prog_1_method_18_code
def y_P_size : MethodName := ⟨R_P, "size", "(I)I"⟩
abbrev w_P_size : List Cond := wz_ y_P_size b_P_size 2 (some .int)
abbrev b_P_solve : ByteArray := prog_1_method_10_code
def y_P_solve : MethodName := ⟨R_P, "solve", "()I"⟩
abbrev w_P_solve : List Cond := wz_ y_P_solve b_P_solve 1 (some .int)
end
section
theorem d_P_size_0 : decode b_P_size 0 = .ok (.iload_n 1, 1) := by decide +kernel
theorem d_P_size_1 : decode b_P_size 1 = .ok (.tableswitch 72 0 4 #[35, 43, 51, 59, 67], 35) := by decide +kernel
theorem d_P_size_36 : decode b_P_size 36 = .ok (.aload_n 0, 1) := by decide +kernel
theorem d_P_size_37 : decode b_P_size 37 = .ok (.getfield 12, 3) := by decide +kernel
theorem d_P_size_40 : decode b_P_size 40 = .ok (.getfield 113, 3) := by decide +kernel
theorem d_P_size_43 : decode b_P_size 43 = .ok (.ireturn, 1) := by decide +kernel
theorem d_P_size_44 : decode b_P_size 44 = .ok (.aload_n 0, 1) := by decide +kernel
theorem d_P_size_45 : decode b_P_size 45 = .ok (.getfield 12, 3) := by decide +kernel
theorem d_P_size_48 : decode b_P_size 48 = .ok (.getfield 116, 3) := by decide +kernel
theorem d_P_size_51 : decode b_P_size 51 = .ok (.ireturn, 1) := by decide +kernel
theorem d_P_size_52 : decode b_P_size 52 = .ok (.aload_n 0, 1) := by decide +kernel
theorem d_P_size_53 : decode b_P_size 53 = .ok (.getfield 12, 3) := by decide +kernel
theorem d_P_size_56 : decode b_P_size 56 = .ok (.invokevirtual 117, 3) := by decide +kernel
theorem d_P_size_59 : decode b_P_size 59 = .ok (.ireturn, 1) := by decide +kernel
theorem d_P_size_60 : decode b_P_size 60 = .ok (.aload_n 0, 1) := by decide +kernel
theorem d_P_size_61 : decode b_P_size 61 = .ok (.getfield 26, 3) := by decide +kernel
theorem d_P_size_64 : decode b_P_size 64 = .ok (.invokevirtual 120, 3) := by decide +kernel
theorem d_P_size_67 : decode b_P_size 67 = .ok (.ireturn, 1) := by decide +kernel
theorem d_P_size_68 : decode b_P_size 68 = .ok (.aload_n 0, 1) := by decide +kernel
theorem d_P_size_69 : decode b_P_size 69 = .ok (.getfield 37, 3) := by decide +kernel
theorem d_P_size_72 : decode b_P_size 72 = .ok (.ireturn, 1) := by decide +kernel
theorem d_P_size_73 : decode b_P_size 73 = .ok (.iconst (-1), 1) := by decide +kernel
theorem d_P_size_74 : decode b_P_size 74 = .ok (.ireturn, 1) := by decide +kernel
theorem d_P_solve_0 : decode b_P_solve 0 = .ok (.aload_n 0, 1) := by decide +kernel
theorem d_P_solve_1 : decode b_P_solve 1 = .ok (.getfield 19, 3) := by decide +kernel
theorem d_P_solve_4 : decode b_P_solve 4 = .ok (.aload_n 0, 1) := by decide +kernel
theorem d_P_solve_5 : decode b_P_solve 5 = .ok (.getfield 12, 3) := by decide +kernel
theorem d_P_solve_8 : decode b_P_solve 8 = .ok (.invokevirtual 71, 3) := by decide +kernel
theorem d_P_solve_11 : decode b_P_solve 11 = .ok (.ifCond .ne 6, 3) := by decide +kernel
theorem d_P_solve_14 : decode b_P_solve 14 = .ok (.bipush (-3), 2) := by decide +kernel
theorem d_P_solve_16 : decode b_P_solve 16 = .ok (.ireturn, 1) := by decide +kernel
theorem d_P_solve_17 : decode b_P_solve 17 = .ok (.aload_n 0, 1) := by decide +kernel
theorem d_P_solve_18 : decode b_P_solve 18 = .ok (.getfield 26, 3) := by decide +kernel
theorem d_P_solve_21 : decode b_P_solve 21 = .ok (.aload_n 0, 1) := by decide +kernel
theorem d_P_solve_22 : decode b_P_solve 22 = .ok (.getfield 12, 3) := by decide +kernel
theorem d_P_solve_25 : decode b_P_solve 25 = .ok (.aload_n 0, 1) := by decide +kernel
theorem d_P_solve_26 : decode b_P_solve 26 = .ok (.getfield 19, 3) := by decide +kernel
theorem d_P_solve_29 : decode b_P_solve 29 = .ok (.invokevirtual 75, 3) := by decide +kernel
theorem d_P_solve_32 : decode b_P_solve 32 = .ok (.aload_n 0, 1) := by decide +kernel
theorem d_P_solve_33 : decode b_P_solve 33 = .ok (.getfield 26, 3) := by decide +kernel
theorem d_P_solve_36 : decode b_P_solve 36 = .ok (.invokevirtual 78, 3) := by decide +kernel
theorem d_P_solve_39 : decode b_P_solve 39 = .ok (.ireturn, 1) := by decide +kernel
end
section
section RW
variable {own : String} {p : Program} {l : Launch} {e : Env} {R : Room} {s : State} {m : MethodId} {args : Array Value} {below : List Frame} {meth : Method} {c : Code} {Q : State → Prop} {X : wX} {nL : Nat} {L : List (Nat × Value)} {σ : sg} {pc : Nat} {st : List Value} {cc : ByteArray}
theorem bic_m3 : (Int8.ofInt (-3)).toInt32 = -3 := by decide
theorem g_P_37 (F : fx_ p s m args c cc nL R_P X) (hd : decode cc pc = .ok (.getfield 37, 3)) (k : vv_ p l e R s m args below meth c Q X nL L σ (pc + 3) (.int (nI (σ 0 4)) :: st)) : vv_ p l e R s m args below meth c Q X nL L σ pc (.ref (adr X 0) :: st) := qv_geti F (ref := R_P) (C := R_P) (T := F_P) (N := 5) in_P 0 rfl rfl 4 (by decide) (by decide +kernel) rfl rfl hd k
theorem g_P_113 (F : fx_ p s m args c cc nL R_P X) (hd : decode cc pc = .ok (.getfield 113, 3)) (k : vv_ p l e R s m args below meth c Q X nL L σ (pc + 3) (.int (nI (σ 1 2)) :: st)) : vv_ p l e R s m args below meth c Q X nL L σ pc (.ref (adr X 1) :: st) := qv_getiN F (ref := R_G) (C := R_G) (T := F_G) (N := 14) (host := R_P) in_G 1 rfl rfl 2 (by decide) (by decide +kernel) rfl rfl hd k
theorem g_P_116 (F : fx_ p s m args c cc nL R_P X) (hd : decode cc pc = .ok (.getfield 116, 3)) (k : vv_ p l e R s m args below meth c Q X nL L σ (pc + 3) (.int (nI (σ 1 7)) :: st)) : vv_ p l e R s m args below meth c Q X nL L σ pc (.ref (adr X 1) :: st) := qv_getiN F (ref := R_G) (C := R_G) (T := F_G) (N := 14) (host := R_P) in_G 1 rfl rfl 7 (by decide) (by decide +kernel) rfl rfl hd k
theorem i_P_71i (F : fx_ p s m args c cc nL R_P X) {v0 : Value} {rest : List Value} {d : Nat} {z : Int32} {τ : sg} (hM : mt_ l X y_N_renew w_N_renew d [.ref (adr X 2), v0] σ (ei_ z τ)) (hR : d + 1 ≤ R.frames ∧ 8 + (3 + 11) + 30 * d ≤ R.locals) (hw : (rest.map fun v => v.category).sum ≤ 8) (hd : decode cc pc = .ok (.invokevirtual 71, 3)) (k : vv_ p l e R s m args below meth c Q X nL L τ (pc + 3) (.int z :: rest)) : vv_ p l e R s m args below meth c Q X nL L σ pc (v0 :: .ref (adr X 2) :: rest) :=
  qv_callV F (maxL := 3) (ret := (some .boolean)) (n := 1) (as := [v0]) (rest := rest) 2 rfl rfl (by decide +kernel) (by decide +kernel) (by decide +kernel) (by decide +kernel) (by decide +kernel) (by decide +kernel) hM rfl hR hw hd (fun r τ' hp => by obtain ⟨rfl, rfl⟩ := hp; exact k)
theorem i_P_75v (F : fx_ p s m args c cc nL R_P X) {v0 v1 : Value} {rest : List Value} {d : Nat} {τ : sg} (hM : mt_ l X y_T_renew w_T_renew d [.ref (adr X 3), v0, v1] σ (ev_ τ)) (hR : d + 1 ≤ R.frames ∧ 8 + (4 + 11) + 30 * d ≤ R.locals) (hw : (rest.map fun v => v.category).sum ≤ 8) (hd : decode cc pc = .ok (.invokevirtual 75, 3)) (k : vv_ p l e R s m args below meth c Q X nL L τ (pc + 3) rest) : vv_ p l e R s m args below meth c Q X nL L σ pc (v1 :: v0 :: .ref (adr X 3) :: rest) :=
  qv_callV F (maxL := 4) (ret := none) (n := 2) (as := [v0, v1]) (rest := rest) 3 rfl rfl (by decide +kernel) (by decide +kernel) (by decide +kernel) (by decide +kernel) (by decide +kernel) (by decide +kernel) hM rfl hR hw hd (fun r τ' hp => by obtain ⟨rfl, rfl⟩ := hp; exact k)
theorem i_P_78i (F : fx_ p s m args c cc nL R_P X) {rest : List Value} {d : Nat} {z : Int32} {τ : sg} (hM : mt_ l X y_T_countPoints w_T_countPoints d [.ref (adr X 3)] σ (ei_ z τ)) (hR : d + 1 ≤ R.frames ∧ 8 + (1 + 11) + 30 * d ≤ R.locals) (hw : (rest.map fun v => v.category).sum ≤ 8) (hd : decode cc pc = .ok (.invokevirtual 78, 3)) (k : vv_ p l e R s m args below meth c Q X nL L τ (pc + 3) (.int z :: rest)) : vv_ p l e R s m args below meth c Q X nL L σ pc (.ref (adr X 3) :: rest) :=
  qv_callV F (maxL := 1) (ret := (some .int)) (n := 0) (as := []) (rest := rest) 3 rfl rfl (by decide +kernel) (by decide +kernel) (by decide +kernel) (by decide +kernel) (by decide +kernel) (by decide +kernel) hM rfl hR hw hd (fun r τ' hp => by obtain ⟨rfl, rfl⟩ := hp; exact k)
theorem i_P_117i (F : fx_ p s m args c cc nL R_P X) {rest : List Value} {d : Nat} {z : Int32} {τ : sg} (hM : mt_ l X y_G_countPasses w_G_countPasses d [.ref (adr X 1)] σ (ei_ z τ)) (hR : d + 1 ≤ R.frames ∧ 8 + (3 + 11) + 30 * d ≤ R.locals) (hw : (rest.map fun v => v.category).sum ≤ 8) (hd : decode cc pc = .ok (.invokevirtual 117, 3)) (k : vv_ p l e R s m args below meth c Q X nL L τ (pc + 3) (.int z :: rest)) : vv_ p l e R s m args below meth c Q X nL L σ pc (.ref (adr X 1) :: rest) :=
  qv_callV F (maxL := 3) (ret := (some .int)) (n := 0) (as := []) (rest := rest) 1 rfl rfl (by decide +kernel) (by decide +kernel) (by decide +kernel) (by decide +kernel) (by decide +kernel) (by decide +kernel) hM rfl hR hw hd (fun r τ' hp => by obtain ⟨rfl, rfl⟩ := hp; exact k)
theorem i_P_120i (F : fx_ p s m args c cc nL R_P X) {rest : List Value} {d : Nat} {z : Int32} {τ : sg} (hM : mt_ l X y_T_countHolds w_T_countHolds d [.ref (adr X 3)] σ (ei_ z τ)) (hR : d + 1 ≤ R.frames ∧ 8 + (1 + 11) + 30 * d ≤ R.locals) (hw : (rest.map fun v => v.category).sum ≤ 8) (hd : decode cc pc = .ok (.invokevirtual 120, 3)) (k : vv_ p l e R s m args below meth c Q X nL L τ (pc + 3) (.int z :: rest)) : vv_ p l e R s m args below meth c Q X nL L σ pc (.ref (adr X 3) :: rest) :=
  qv_callV F (maxL := 1) (ret := (some .int)) (n := 0) (as := []) (rest := rest) 3 rfl rfl (by decide +kernel) (by decide +kernel) (by decide +kernel) (by decide +kernel) (by decide +kernel) (by decide +kernel) hM rfl hR hw hd (fun r τ' hp => by obtain ⟨rfl, rfl⟩ := hp; exact k)
end RW
end
section
/-! solve and size -/
def fs_ (σ : sg) : rs_ := fin_ σ (ct2_ σ (σ 1 7)) (fb_ σ (σ 1 7) (σ 18)) (σ 1 2) (σ 1 7)
def sg_ (σ : sg) : Bool := gd_ (so_ σ (cr_ σ (σ 1 7)) (σ 1 7))
set_option maxRecDepth 100000 in
set_option maxHeartbeats 4000000 in
theorem c_P_solve (l : Launch) (X : wX) (σ : sg) (hn : σ 1 2 ≤ 40) (hc : σ 1 7 ≤ 8) (ht : tw_ σ) : mt_ l X y_P_solve w_P_solve 6 [.ref (adr X 0)] σ (ei_ (if sg_ σ = true then nI (sp_ (fs_ σ).1 128) else -3) (if sg_ σ = true then sr_ (ua (ny_ σ) 23 (ft_ σ)) (fs_ σ) else nn_ σ)) := by
  refine mt_of (own := R_P) rfl pl_P (Nat.le_of_ble_eq_true rfl) ?_
  intro zp ze zs zm za zb zt zc F hr hlk
  refine qv_sub (L' := [(0, _)]) [0] rfl ?_
  have h11 := ht.2.2.2.2.2.2.1
  have h12 := ht.2.2.2.2.2.2.2.1
  have hok := ok_cr h11 h12 (σ 1 7)
  refine qv_aload_n F d_P_solve_0 0 rfl ?_
  refine g_P_19 F d_P_solve_1 ?_
  refine qv_aload_n F d_P_solve_4 0 rfl ?_
  refine g_P_12 F d_P_solve_5 ?_
  refine i_P_71i F (c_N_renew l X σ hc h11 h12) (by decide) (Nat.le_of_ble_eq_true rfl) d_P_solve_8 ?_
  refine qv_ifneB F d_P_solve_11 rfl (fun hb => ?_) (fun hb => ?_)
  ·
    have hg : sg_ σ = true := hb
    have e1 : ft_ (ny_ σ) = ft_ σ := ft_cg rfl rfl
    have e2 : fin_ (ny_ σ) = fin_ σ := fin_cg rfl rfl rfl rfl rfl rfl rfl rfl rfl rfl rfl
    rw [hg, hb, if_pos rfl, if_pos rfl, if_pos rfl]
    refine qv_aload_n F d_P_solve_17 0 rfl ?_
    refine g_P_26 F d_P_solve_18 ?_
    refine qv_aload_n F d_P_solve_21 0 rfl ?_
    refine g_P_12 F d_P_solve_22 ?_
    refine qv_aload_n F d_P_solve_25 0 rfl ?_
    refine g_P_19 F d_P_solve_26 ?_
    refine i_P_75v F (c_T_renew l X (ny_ σ) hn hc (ct2_8 hb) (fun k hk => fb_8 hok hb hk) ht) (by decide) (Nat.le_of_ble_eq_true rfl) d_P_solve_29 ?_
    rw [e1, e2]
    refine qv_st (σ' := sr_ (ua (ny_ σ) 23 (ft_ σ)) (fs_ σ)) rfl ?_
    refine qv_aload_n F d_P_solve_32 0 rfl ?_
    refine g_P_26 F d_P_solve_33 ?_
    refine i_P_78i F (c_T_countPoints l X (sr_ (ua (ny_ σ) 23 (ft_ σ)) (fs_ σ)) (fin_B _ _ _ _ _).1) (by decide) (Nat.le_of_ble_eq_true rfl) d_P_solve_36 ?_
    exact qv_iret F hr hlk d_P_solve_39 (ei_of rfl rfl)
  ·
    have hg : sg_ σ = false := hb
    rw [hg, hb]
    refine qv_bipush F (-3) d_P_solve_14 bic_m3 ?_
    exact qv_iret F hr hlk d_P_solve_16 (ei_of rfl rfl)
def sz_ (a b c d o : Nat) (x : Int32) : Int32 := if wi_ x 5 = true then nI ([a, b, c, d, o].getD (tn_ x) 0) else -1
theorem wi_out {x : Int32} {n : Nat} (h : wi_ x n = false) : x.toInt < 0 ∨ (n : Int) - 1 < x.toInt := by
  unfold wi_ at h
  rw [decide_eq_false_iff_not] at h
  omega
set_option maxRecDepth 100000 in
set_option maxHeartbeats 4000000 in
theorem c_P_size (l : Launch) (X : wX) (σ : sg) (x : Int32) (hc : σ 1 7 ≤ 8) (h13 : ∀ k, σ 13 k ≤ 4) (h22 : ∀ k, σ 22 k < 256) : mt_ l X y_P_size w_P_size 3 [.ref (adr X 0), .int x] σ (ei_ (sz_ (σ 1 2) (σ 1 7) (sm_ (σ 13) (σ 1 7)) (sp_ (σ 22) 16) (σ 0 4) x) σ) := by
  refine mt_of (own := R_P) rfl pl_P (Nat.le_of_ble_eq_true rfl) ?_
  intro zp ze zs zm za zb zt zc F hr hlk
  refine qv_sub (L' := [(0, _), (1, _)]) [0, 1] rfl ?_
  refine qv_iload_n F d_P_size_0 1 rfl ?_
  cases hx : wi_ x 5 with
  | false =>
    refine qv_tswI F d_P_size_1 (wi_out hx) (tgt := 73) rfl ?_
    refine qv_iconst F (-1) d_P_size_73 ic_m1 ?_
    exact qv_iret F hr hlk d_P_size_74 (ei_of (by unfold sz_; rw [hx]; rfl) rfl)
  | true =>
    obtain ⟨j, hj, rfl⟩ := wi_t (by decide) hx
    rcases (by omega : j = 0 ∨ j = 1 ∨ j = 2 ∨ j = 3 ∨ j = 4) with rfl | rfl | rfl | rfl | rfl
    ·
      refine qv_tsw F d_P_size_1 (by decide) (by decide) (by decide) (off := 35) (tgt := 36) rfl rfl ?_
      refine qv_aload_n F d_P_size_36 0 rfl ?_
      refine g_P_12 F d_P_size_37 ?_
      refine g_P_113 F d_P_size_40 ?_
      exact qv_iret F hr hlk d_P_size_43 (ei_of (by unfold sz_; rw [hx, tn_nI (by decide)]; rfl) rfl)
    ·
      refine qv_tsw F d_P_size_1 (by decide) (by decide) (by decide) (off := 43) (tgt := 44) rfl rfl ?_
      refine qv_aload_n F d_P_size_44 0 rfl ?_
      refine g_P_12 F d_P_size_45 ?_
      refine g_P_116 F d_P_size_48 ?_
      exact qv_iret F hr hlk d_P_size_51 (ei_of (by unfold sz_; rw [hx, tn_nI (by decide)]; rfl) rfl)
    ·
      refine qv_tsw F d_P_size_1 (by decide) (by decide) (by decide) (off := 51) (tgt := 52) rfl rfl ?_
      refine qv_aload_n F d_P_size_52 0 rfl ?_
      refine g_P_12 F d_P_size_53 ?_
      refine i_P_117i F (c_G_countPasses l X σ hc h13) (by decide) (Nat.le_of_ble_eq_true rfl) d_P_size_56 ?_
      exact qv_iret F hr hlk d_P_size_59 (ei_of (by unfold sz_; rw [hx, tn_nI (by decide)]; rfl) rfl)
    ·
      refine qv_tsw F d_P_size_1 (by decide) (by decide) (by decide) (off := 59) (tgt := 60) rfl rfl ?_
      refine qv_aload_n F d_P_size_60 0 rfl ?_
      refine g_P_26 F d_P_size_61 ?_
      refine i_P_120i F (c_T_countHolds l X σ h22) (by decide) (Nat.le_of_ble_eq_true rfl) d_P_size_64 ?_
      exact qv_iret F hr hlk d_P_size_67 (ei_of (by unfold sz_; rw [hx, tn_nI (by decide)]; rfl) rfl)
    ·
      refine qv_tsw F d_P_size_1 (by decide) (by decide) (by decide) (off := 67) (tgt := 68) rfl rfl ?_
      refine qv_aload_n F d_P_size_68 0 rfl ?_
      refine g_P_37 F d_P_size_69 ?_
      exact qv_iret F hr hlk d_P_size_72 (ei_of (by unfold sz_; rw [hx, tn_nI (by decide)]; rfl) rfl)
end
section
section CV
variable {p : Program} {l : Launch} {e : Env} {R : Room} {s : State} {m : MethodId} {args : Array Value} {below : List Frame} {meth : Method} {c : Code} {Q : State → Prop}
variable {X : wX} {nL : Nat} {L : List (Nat × Value)} {σ : sg} {pc : Nat} {st : List Value} {cc : ByteArray} {own : String}
theorem qv_ifge (F : fx_ p s m args c cc nL own X) {a : Nat} {off : Int} {tgt : Nat} (hd : decode cc pc = .ok (.ifCond .ge off, 3)) (ht : (pc : Int) + off = (tgt : Int)) (ha : a < 2 ^ 31) (k : vv_ p l e R s m args below meth c Q X nL L σ tgt st) : vv_ p l e R s m args below meth c Q X nL L σ pc (.int (nI a) :: st) :=
  fun H locs ls h hP hS => lv_if_ge (fx_x F) (fx_b F) hd ht (fun _ => k H locs ls h hP hS) (fun q => absurd (nI_pos' ha) q)
theorem qv_ifltF (F : fx_ p s m args c cc nL own X) {a : Nat} {off : Int} {tgt : Nat} (hd : decode cc pc = .ok (.ifCond .lt off, 3)) (ht : (pc : Int) + off = (tgt : Int)) (ha : a < 2 ^ 31) (k : vv_ p l e R s m args below meth c Q X nL L σ (pc + 3) st) : vv_ p l e R s m args below meth c Q X nL L σ pc (.int (nI a) :: st) :=
  fun H locs ls h hP hS => lv_if_lt (fx_x F) (fx_b F) hd ht (fun q => absurd q (nI_pos ha)) (fun _ => k H locs ls h hP hS)
theorem qv_ifltT (F : fx_ p s m args c cc nL own X) {x : Int32} {off : Int} {tgt : Nat} (hd : decode cc pc = .ok (.ifCond .lt off, 3)) (ht : (pc : Int) + off = (tgt : Int)) (hx : x < 0) (k : vv_ p l e R s m args below meth c Q X nL L σ tgt st) : vv_ p l e R s m args below meth c Q X nL L σ pc (.int x :: st) :=
  fun H locs ls h hP hS => lv_if_lt (fx_x F) (fx_b F) hd ht (fun _ => k H locs ls h hP hS) (fun q => absurd hx q)
end CV
/-! the diagram's own cells -/
def dg_ (σ : sg) (w o : Nat) (G : Nat → Nat) : sg := ua (us (ua σ 24 (sh_ w o)) 4 2 (rw_ w)) 25 G
theorem rw_le (w : Nat) : rw_ w ≤ 1024 := by unfold rw_; by_cases e : w = 0; rw [if_pos e]; exact Nat.le_refl _; rw [if_neg e]; decide
theorem bg_rw {w o : Nat} (hw : w < 2) (ho : o < 6) : 1 * 2 ^ (0 + bitT.getD (w * 3 + staT.getD (o * 3 + 2) 0) 0 + bitT.getD (w * 3 + staT.getD (o * 3 + 1) 0) 0 + bitT.getD (w * 3 + staT.getD (o * 3 + 0) 0) 0) = rw_ w :=
  ix_12 (P := fun w o => 1 * 2 ^ (0 + bitT.getD (w * 3 + staT.getD (o * 3 + 2) 0) 0 + bitT.getD (w * 3 + staT.getD (o * 3 + 1) 0) 0 + bitT.getD (w * 3 + staT.getD (o * 3 + 0) 0) 0) = rw_ w) (by decide) (by decide) (by decide) (by decide) (by decide) (by decide) (by decide) (by decide) (by decide) (by decide) (by decide) (by decide) hw ho
theorem bg_3 {P : Nat → Prop} (h0 : P 0) (h1 : P 1) (h2 : P 2) : ∀ k, k < 3 → P k := fun k hk => by
  rcases (by omega : k = 0 ∨ k = 1 ∨ k = 2) with rfl | rfl | rfl <;> assumption
def bgc_ (f : Nat → Nat) (w o : Nat) : Nat → Nat := va_up (va_up (va_up f (staT.getD (o * 3 + 2) 0) 0) (staT.getD (o * 3 + 1) 0) (0 + bitT.getD (w * 3 + staT.getD (o * 3 + 2) 0) 0)) (staT.getD (o * 3 + 0) 0) (0 + bitT.getD (w * 3 + staT.getD (o * 3 + 2) 0) 0 + bitT.getD (w * 3 + staT.getD (o * 3 + 1) 0) 0)
theorem bg_sh (f : Nat → Nat) {w o : Nat} (hw : w < 2) (ho : o < 6) : ∀ k, k < 3 → sh_ w o k = bgc_ f w o k :=
  ix_12 (P := fun w o => ∀ k, k < 3 → sh_ w o k = bgc_ f w o k) (bg_3 rfl rfl rfl) (bg_3 rfl rfl rfl) (bg_3 rfl rfl rfl) (bg_3 rfl rfl rfl) (bg_3 rfl rfl rfl) (bg_3 rfl rfl rfl) (bg_3 rfl rfl rfl) (bg_3 rfl rfl rfl) (bg_3 rfl rfl rfl) (bg_3 rfl rfl rfl) (bg_3 rfl rfl rfl) (bg_3 rfl rfl rfl) hw ho
theorem bg_st (σ : sg) (c : Nat → Nat) (w o x : Nat) (G : Nat → Nat) : ua (ua (us (ua σ 24 c) 4 2 (rw_ w)) 25 G) 24 (sh_ w o) = dg_ σ w o G := by
  funext b
  unfold dg_ us
  by_cases h24 : b = 24
  · subst h24; rw [ua_eq, ua_ne (by decide), ua_ne (by decide), ua_eq]
  · rw [ua_ne h24]
    by_cases h25 : b = 25
    · subst h25; rw [ua_eq, ua_eq]
    · rw [ua_ne h25, ua_ne h25]
      by_cases h4 : b = 4
      · subst h4; rw [ua_eq, ua_eq]; rfl
      · rw [ua_ne h4, ua_ne h4, ua_ne h24, ua_ne h24]
theorem dg_G (σ : sg) (w o : Nat) (G G' : Nat → Nat) : ua (dg_ σ w o G) 25 G' = dg_ σ w o G' := ua_ua _ _ _ _
/-- how far a relation has been drawn: c rows, and v of the next -/
def dn_ (w o : Nat) (f old : Nat → Nat) (c v : Nat) (G : Nat → Nat) : Prop := ∀ k, G k = if k < rw_ w then (if k0_ w o k < c ∨ (k0_ w o k = c ∧ k1_ w o k < v) then fn_ w o f k else 0) else old k
theorem dn_row {w o : Nat} (hw : w < 2) (ho : o < 6) {f old : Nat → Nat} {c v : Nat} {G : Nat → Nat} (hc : c < 8) (hv : v < nb2_ w) (h : dn_ w o f old c v G) : dn_ w o f old c (v + 1) (if f (c * nb2_ w + v) = 0 then G else dr_ w o c v (f (c * nb2_ w + v)) 8 G) := by
  intro k
  by_cases hk : k < rw_ w
  · have h1 := h k
    rw [if_pos hk] at h1 ⊢
    have h2 := kk2_lt w o k
    by_cases e : k0_ w o k = c ∧ k1_ w o k = v
    · have e3 : fn_ w o f k = ((f (c * nb2_ w + v)).testBit (k2_ w o k)).toNat := by unfold fn_; rw [e.1, e.2]
      rw [if_pos (show k0_ w o k < c ∨ (k0_ w o k = c ∧ k1_ w o k < v + 1) by omega), e3]
      by_cases z : f (c * nb2_ w + v) = 0
      · rw [if_pos z, h1, if_neg (show ¬ (k0_ w o k < c ∨ (k0_ w o k = c ∧ k1_ w o k < v)) by omega), z, Nat.zero_testBit]; rfl
      · rw [if_neg z, dr_at hw ho hc hv hk 8 (Nat.le_refl _), if_pos ⟨e.1, e.2, h2⟩]
    · have e4 : (if f (c * nb2_ w + v) = 0 then G else dr_ w o c v (f (c * nb2_ w + v)) 8 G) k = G k := by
        by_cases z : f (c * nb2_ w + v) = 0
        · rw [if_pos z]
        · rw [if_neg z, dr_at hw ho hc hv hk 8 (Nat.le_refl _), if_neg (by omega)]
      rw [e4, h1]
      by_cases q : k0_ w o k < c ∨ (k0_ w o k = c ∧ k1_ w o k < v)
      · rw [if_pos q, if_pos (by omega)]
      · rw [if_neg q, if_neg (by omega)]
  · have h1 := h k
    rw [if_neg hk] at h1 ⊢
    by_cases z : f (c * nb2_ w + v) = 0
    · rw [if_pos z]; exact h1
    · rw [if_neg z, ← h1]
      exact dr_out hw ho hc hv hk 8 (Nat.le_refl _)
theorem dn_next {w o : Nat} {f old : Nat → Nat} {c : Nat} {G : Nat → Nat} (h : dn_ w o f old c (nb2_ w) G) : dn_ w o f old (c + 1) 0 G := by
  intro k
  rw [h k]
  have h1 := k1_lt w o k
  by_cases hk : k < rw_ w
  · rw [if_pos hk, if_pos hk]
    by_cases q : k0_ w o k < c + 1
    · rw [if_pos (by omega), if_pos (by omega)]
    · rw [if_neg (by omega), if_neg (by omega)]
  · rw [if_neg hk, if_neg hk]
theorem dn_0 {w o : Nat} {f old : Nat → Nat} : dn_ w o f old 0 0 (fun k => if k < rw_ w then 0 else old k) := by
  intro k
  by_cases hk : k < rw_ w
  · show (if k < rw_ w then 0 else old k) = _
    rw [if_pos hk, if_pos hk, if_neg (by omega)]
  · show (if k < rw_ w then 0 else old k) = _
    rw [if_neg hk, if_neg hk]
theorem dn_end {w o : Nat} {f old : Nat → Nat} {G : Nat → Nat} (h : dn_ w o f old 8 0 G) : G = fun k => if k < rw_ w then fn_ w o f k else old k := by
  funext k
  rw [h k]
  have h1 := k0_lt w o k
  by_cases hk : k < rw_ w
  · rw [if_pos hk, if_pos hk, if_pos (by omega)]
  · rw [if_neg hk, if_neg hk]
end
section
abbrev b_A_fill4 : ByteArray := prog_11_method_104_code
def y_A_fill4 : MethodName := ⟨R_A, "fill", "([IIII)V"⟩
abbrev w_A_fill4 : List Cond := wz_ y_A_fill4 b_A_fill4 5 none
abbrev b_A_rangeCheck : ByteArray := prog_11_method_30_code
def y_A_rangeCheck : MethodName := ⟨R_A, "rangeCheck", "(III)V"⟩
abbrev w_A_rangeCheck : List Cond := wz_ y_A_rangeCheck b_A_rangeCheck 3 none
abbrev b_D_begin : ByteArray := prog_2_method_2_code
def y_D_begin : MethodName := ⟨R_D, "begin", "(II)V"⟩
abbrev w_D_begin : List Cond := wz_ y_D_begin b_D_begin 6 none
abbrev b_D_drawRows : ByteArray := prog_2_method_3_code
def y_D_drawRows : MethodName := ⟨R_D, "drawRows", "(III)V"⟩
abbrev w_D_drawRows : List Cond := wz_ y_D_drawRows b_D_drawRows 6 none
abbrev b_T_drawHolds : ByteArray := prog_5_method_18_code
def y_T_drawHolds : MethodName := ⟨R_T, "drawHolds", "(LPointerClones$Diagram;I)V"⟩
abbrev w_T_drawHolds : List Cond := wz_ y_T_drawHolds b_T_drawHolds 5 none
abbrev b_T_drawPoints : ByteArray := prog_5_method_17_code
def y_T_drawPoints : MethodName := ⟨R_T, "drawPoints", "(LPointerClones$Diagram;I)V"⟩
abbrev w_T_drawPoints : List Cond := wz_ y_T_drawPoints b_T_drawPoints 5 none
end
section
theorem d_A_fill4_0 : decode b_A_fill4 0 = .ok (.aload_n 0, 1) := by decide +kernel
theorem d_A_fill4_1 : decode b_A_fill4 1 = .ok (.arraylength, 1) := by decide +kernel
theorem d_A_fill4_2 : decode b_A_fill4 2 = .ok (.iload_n 1, 1) := by decide +kernel
theorem d_A_fill4_3 : decode b_A_fill4 3 = .ok (.iload_n 2, 1) := by decide +kernel
theorem d_A_fill4_4 : decode b_A_fill4 4 = .ok (.invokestatic 13, 3) := by decide +kernel
theorem d_A_fill4_7 : decode b_A_fill4 7 = .ok (.iload_n 1, 1) := by decide +kernel
theorem d_A_fill4_8 : decode b_A_fill4 8 = .ok (.istore 4, 2) := by decide +kernel
theorem d_A_fill4_10 : decode b_A_fill4 10 = .ok (.iload 4, 2) := by decide +kernel
theorem d_A_fill4_12 : decode b_A_fill4 12 = .ok (.iload_n 2, 1) := by decide +kernel
theorem d_A_fill4_13 : decode b_A_fill4 13 = .ok (.if_icmp .ge 14, 3) := by decide +kernel
theorem d_A_fill4_16 : decode b_A_fill4 16 = .ok (.aload_n 0, 1) := by decide +kernel
theorem d_A_fill4_17 : decode b_A_fill4 17 = .ok (.iload 4, 2) := by decide +kernel
theorem d_A_fill4_19 : decode b_A_fill4 19 = .ok (.iload_n 3, 1) := by decide +kernel
theorem d_A_fill4_20 : decode b_A_fill4 20 = .ok (.iastore, 1) := by decide +kernel
theorem d_A_fill4_21 : decode b_A_fill4 21 = .ok (.iinc 4 1, 3) := by decide +kernel
theorem d_A_fill4_24 : decode b_A_fill4 24 = .ok (.goto (-14), 3) := by decide +kernel
theorem d_A_fill4_27 : decode b_A_fill4 27 = .ok (.return_, 1) := by decide +kernel
theorem d_A_rangeCheck_0 : decode b_A_rangeCheck 0 = .ok (.iload_n 1, 1) := by decide +kernel
theorem d_A_rangeCheck_1 : decode b_A_rangeCheck 1 = .ok (.iload_n 2, 1) := by decide +kernel
theorem d_A_rangeCheck_2 : decode b_A_rangeCheck 2 = .ok (.if_icmp .le 44, 3) := by decide +kernel
theorem d_A_rangeCheck_5 : decode b_A_rangeCheck 5 = .ok (.new 43, 3) := by decide +kernel
theorem d_A_rangeCheck_8 : decode b_A_rangeCheck 8 = .ok (.dup, 1) := by decide +kernel
theorem d_A_rangeCheck_9 : decode b_A_rangeCheck 9 = .ok (.new 45, 3) := by decide +kernel
theorem d_A_rangeCheck_12 : decode b_A_rangeCheck 12 = .ok (.dup, 1) := by decide +kernel
theorem d_A_rangeCheck_13 : decode b_A_rangeCheck 13 = .ok (.invokespecial 47, 3) := by decide +kernel
theorem d_A_rangeCheck_18 : decode b_A_rangeCheck 18 = .ok (.invokevirtual 50, 3) := by decide +kernel
theorem d_A_rangeCheck_21 : decode b_A_rangeCheck 21 = .ok (.iload_n 1, 1) := by decide +kernel
theorem d_A_rangeCheck_22 : decode b_A_rangeCheck 22 = .ok (.invokevirtual 54, 3) := by decide +kernel
theorem d_A_rangeCheck_27 : decode b_A_rangeCheck 27 = .ok (.invokevirtual 50, 3) := by decide +kernel
theorem d_A_rangeCheck_30 : decode b_A_rangeCheck 30 = .ok (.iload_n 2, 1) := by decide +kernel
theorem d_A_rangeCheck_31 : decode b_A_rangeCheck 31 = .ok (.invokevirtual 54, 3) := by decide +kernel
theorem d_A_rangeCheck_36 : decode b_A_rangeCheck 36 = .ok (.invokevirtual 50, 3) := by decide +kernel
theorem d_A_rangeCheck_39 : decode b_A_rangeCheck 39 = .ok (.invokevirtual 61, 3) := by decide +kernel
theorem d_A_rangeCheck_42 : decode b_A_rangeCheck 42 = .ok (.invokespecial 65, 3) := by decide +kernel
theorem d_A_rangeCheck_46 : decode b_A_rangeCheck 46 = .ok (.iload_n 1, 1) := by decide +kernel
theorem d_A_rangeCheck_47 : decode b_A_rangeCheck 47 = .ok (.ifCond .ge 12, 3) := by decide +kernel
theorem d_A_rangeCheck_50 : decode b_A_rangeCheck 50 = .ok (.new 68, 3) := by decide +kernel
theorem d_A_rangeCheck_53 : decode b_A_rangeCheck 53 = .ok (.dup, 1) := by decide +kernel
theorem d_A_rangeCheck_54 : decode b_A_rangeCheck 54 = .ok (.iload_n 1, 1) := by decide +kernel
theorem d_A_rangeCheck_55 : decode b_A_rangeCheck 55 = .ok (.invokespecial 70, 3) := by decide +kernel
theorem d_A_rangeCheck_59 : decode b_A_rangeCheck 59 = .ok (.iload_n 2, 1) := by decide +kernel
theorem d_A_rangeCheck_60 : decode b_A_rangeCheck 60 = .ok (.iload_n 0, 1) := by decide +kernel
theorem d_A_rangeCheck_61 : decode b_A_rangeCheck 61 = .ok (.if_icmp .le 12, 3) := by decide +kernel
theorem d_A_rangeCheck_64 : decode b_A_rangeCheck 64 = .ok (.new 68, 3) := by decide +kernel
theorem d_A_rangeCheck_67 : decode b_A_rangeCheck 67 = .ok (.dup, 1) := by decide +kernel
theorem d_A_rangeCheck_68 : decode b_A_rangeCheck 68 = .ok (.iload_n 2, 1) := by decide +kernel
theorem d_A_rangeCheck_69 : decode b_A_rangeCheck 69 = .ok (.invokespecial 70, 3) := by decide +kernel
theorem d_A_rangeCheck_73 : decode b_A_rangeCheck 73 = .ok (.return_, 1) := by decide +kernel
theorem d_D_begin_0 : decode b_D_begin 0 = .ok (.iconst 0, 1) := by decide +kernel
theorem d_D_begin_1 : decode b_D_begin 1 = .ok (.istore_n 3, 1) := by decide +kernel
theorem d_D_begin_2 : decode b_D_begin 2 = .ok (.iconst 2, 1) := by decide +kernel
theorem d_D_begin_3 : decode b_D_begin 3 = .ok (.istore 4, 2) := by decide +kernel
theorem d_D_begin_5 : decode b_D_begin 5 = .ok (.iload 4, 2) := by decide +kernel
theorem d_D_begin_7 : decode b_D_begin 7 = .ok (.ifCond .lt 42, 3) := by decide +kernel
theorem d_D_begin_10 : decode b_D_begin 10 = .ok (.getstatic 31, 3) := by decide +kernel
theorem d_D_begin_13 : decode b_D_begin 13 = .ok (.iload_n 2, 1) := by decide +kernel
theorem d_D_begin_14 : decode b_D_begin 14 = .ok (.iconst 3, 1) := by decide +kernel
theorem d_D_begin_15 : decode b_D_begin 15 = .ok (.imul, 1) := by decide +kernel
theorem d_D_begin_16 : decode b_D_begin 16 = .ok (.iload 4, 2) := by decide +kernel
theorem d_D_begin_18 : decode b_D_begin 18 = .ok (.iadd, 1) := by decide +kernel
theorem d_D_begin_19 : decode b_D_begin 19 = .ok (.iaload, 1) := by decide +kernel
theorem d_D_begin_20 : decode b_D_begin 20 = .ok (.istore 5, 2) := by decide +kernel
theorem d_D_begin_22 : decode b_D_begin 22 = .ok (.aload_n 0, 1) := by decide +kernel
theorem d_D_begin_23 : decode b_D_begin 23 = .ok (.getfield 11, 3) := by decide +kernel
theorem d_D_begin_26 : decode b_D_begin 26 = .ok (.iload 5, 2) := by decide +kernel
theorem d_D_begin_28 : decode b_D_begin 28 = .ok (.iload_n 3, 1) := by decide +kernel
theorem d_D_begin_29 : decode b_D_begin 29 = .ok (.iastore, 1) := by decide +kernel
theorem d_D_begin_30 : decode b_D_begin 30 = .ok (.iload_n 3, 1) := by decide +kernel
theorem d_D_begin_31 : decode b_D_begin 31 = .ok (.getstatic 34, 3) := by decide +kernel
theorem d_D_begin_34 : decode b_D_begin 34 = .ok (.iload_n 1, 1) := by decide +kernel
theorem d_D_begin_35 : decode b_D_begin 35 = .ok (.iconst 3, 1) := by decide +kernel
theorem d_D_begin_36 : decode b_D_begin 36 = .ok (.imul, 1) := by decide +kernel
theorem d_D_begin_37 : decode b_D_begin 37 = .ok (.iload 5, 2) := by decide +kernel
theorem d_D_begin_39 : decode b_D_begin 39 = .ok (.iadd, 1) := by decide +kernel
theorem d_D_begin_40 : decode b_D_begin 40 = .ok (.iaload, 1) := by decide +kernel
theorem d_D_begin_41 : decode b_D_begin 41 = .ok (.iadd, 1) := by decide +kernel
theorem d_D_begin_42 : decode b_D_begin 42 = .ok (.istore_n 3, 1) := by decide +kernel
theorem d_D_begin_43 : decode b_D_begin 43 = .ok (.iinc 4 (-1), 3) := by decide +kernel
theorem d_D_begin_46 : decode b_D_begin 46 = .ok (.goto (-41), 3) := by decide +kernel
theorem d_D_begin_49 : decode b_D_begin 49 = .ok (.aload_n 0, 1) := by decide +kernel
theorem d_D_begin_50 : decode b_D_begin 50 = .ok (.iconst 1, 1) := by decide +kernel
theorem d_D_begin_51 : decode b_D_begin 51 = .ok (.iload_n 3, 1) := by decide +kernel
theorem d_D_begin_52 : decode b_D_begin 52 = .ok (.ishl, 1) := by decide +kernel
theorem d_D_begin_53 : decode b_D_begin 53 = .ok (.putfield 18, 3) := by decide +kernel
theorem d_D_begin_56 : decode b_D_begin 56 = .ok (.aload_n 0, 1) := by decide +kernel
theorem d_D_begin_57 : decode b_D_begin 57 = .ok (.getfield 15, 3) := by decide +kernel
theorem d_D_begin_60 : decode b_D_begin 60 = .ok (.iconst 0, 1) := by decide +kernel
theorem d_D_begin_61 : decode b_D_begin 61 = .ok (.aload_n 0, 1) := by decide +kernel
theorem d_D_begin_62 : decode b_D_begin 62 = .ok (.getfield 18, 3) := by decide +kernel
theorem d_D_begin_65 : decode b_D_begin 65 = .ok (.iconst 0, 1) := by decide +kernel
theorem d_D_begin_66 : decode b_D_begin 66 = .ok (.invokestatic 37, 3) := by decide +kernel
theorem d_D_begin_69 : decode b_D_begin 69 = .ok (.return_, 1) := by decide +kernel
theorem d_D_drawRows_0 : decode b_D_drawRows 0 = .ok (.iload_n 3, 1) := by decide +kernel
theorem d_D_drawRows_1 : decode b_D_drawRows 1 = .ok (.ifCond .ne 4, 3) := by decide +kernel
theorem d_D_drawRows_4 : decode b_D_drawRows 4 = .ok (.return_, 1) := by decide +kernel
theorem d_D_drawRows_5 : decode b_D_drawRows 5 = .ok (.iload_n 1, 1) := by decide +kernel
theorem d_D_drawRows_6 : decode b_D_drawRows 6 = .ok (.aload_n 0, 1) := by decide +kernel
theorem d_D_drawRows_7 : decode b_D_drawRows 7 = .ok (.getfield 11, 3) := by decide +kernel
theorem d_D_drawRows_10 : decode b_D_drawRows 10 = .ok (.iconst 0, 1) := by decide +kernel
theorem d_D_drawRows_11 : decode b_D_drawRows 11 = .ok (.iaload, 1) := by decide +kernel
theorem d_D_drawRows_12 : decode b_D_drawRows 12 = .ok (.ishl, 1) := by decide +kernel
theorem d_D_drawRows_13 : decode b_D_drawRows 13 = .ok (.iload_n 2, 1) := by decide +kernel
theorem d_D_drawRows_14 : decode b_D_drawRows 14 = .ok (.aload_n 0, 1) := by decide +kernel
theorem d_D_drawRows_15 : decode b_D_drawRows 15 = .ok (.getfield 11, 3) := by decide +kernel
theorem d_D_drawRows_18 : decode b_D_drawRows 18 = .ok (.iconst 1, 1) := by decide +kernel
theorem d_D_drawRows_19 : decode b_D_drawRows 19 = .ok (.iaload, 1) := by decide +kernel
theorem d_D_drawRows_20 : decode b_D_drawRows 20 = .ok (.ishl, 1) := by decide +kernel
theorem d_D_drawRows_21 : decode b_D_drawRows 21 = .ok (.iadd, 1) := by decide +kernel
theorem d_D_drawRows_22 : decode b_D_drawRows 22 = .ok (.istore 4, 2) := by decide +kernel
theorem d_D_drawRows_24 : decode b_D_drawRows 24 = .ok (.iconst 0, 1) := by decide +kernel
theorem d_D_drawRows_25 : decode b_D_drawRows 25 = .ok (.istore 5, 2) := by decide +kernel
theorem d_D_drawRows_27 : decode b_D_drawRows 27 = .ok (.iload 5, 2) := by decide +kernel
theorem d_D_drawRows_29 : decode b_D_drawRows 29 = .ok (.bipush 8, 2) := by decide +kernel
theorem d_D_drawRows_31 : decode b_D_drawRows 31 = .ok (.if_icmp .ge 32, 3) := by decide +kernel
theorem d_D_drawRows_34 : decode b_D_drawRows 34 = .ok (.aload_n 0, 1) := by decide +kernel
theorem d_D_drawRows_35 : decode b_D_drawRows 35 = .ok (.getfield 15, 3) := by decide +kernel
theorem d_D_drawRows_38 : decode b_D_drawRows 38 = .ok (.iload 4, 2) := by decide +kernel
theorem d_D_drawRows_40 : decode b_D_drawRows 40 = .ok (.iload 5, 2) := by decide +kernel
theorem d_D_drawRows_42 : decode b_D_drawRows 42 = .ok (.aload_n 0, 1) := by decide +kernel
theorem d_D_drawRows_43 : decode b_D_drawRows 43 = .ok (.getfield 11, 3) := by decide +kernel
theorem d_D_drawRows_46 : decode b_D_drawRows 46 = .ok (.iconst 2, 1) := by decide +kernel
theorem d_D_drawRows_47 : decode b_D_drawRows 47 = .ok (.iaload, 1) := by decide +kernel
theorem d_D_drawRows_48 : decode b_D_drawRows 48 = .ok (.ishl, 1) := by decide +kernel
theorem d_D_drawRows_49 : decode b_D_drawRows 49 = .ok (.iadd, 1) := by decide +kernel
theorem d_D_drawRows_50 : decode b_D_drawRows 50 = .ok (.iload_n 3, 1) := by decide +kernel
theorem d_D_drawRows_51 : decode b_D_drawRows 51 = .ok (.iload 5, 2) := by decide +kernel
theorem d_D_drawRows_53 : decode b_D_drawRows 53 = .ok (.ishr, 1) := by decide +kernel
theorem d_D_drawRows_54 : decode b_D_drawRows 54 = .ok (.iconst 1, 1) := by decide +kernel
theorem d_D_drawRows_55 : decode b_D_drawRows 55 = .ok (.iand, 1) := by decide +kernel
theorem d_D_drawRows_56 : decode b_D_drawRows 56 = .ok (.iastore, 1) := by decide +kernel
theorem d_D_drawRows_57 : decode b_D_drawRows 57 = .ok (.iinc 5 1, 3) := by decide +kernel
theorem d_D_drawRows_60 : decode b_D_drawRows 60 = .ok (.goto (-33), 3) := by decide +kernel
theorem d_D_drawRows_63 : decode b_D_drawRows 63 = .ok (.return_, 1) := by decide +kernel
theorem d_T_drawHolds_0 : decode b_T_drawHolds 0 = .ok (.aload_n 1, 1) := by decide +kernel
theorem d_T_drawHolds_1 : decode b_T_drawHolds 1 = .ok (.iconst 1, 1) := by decide +kernel
theorem d_T_drawHolds_2 : decode b_T_drawHolds 2 = .ok (.iload_n 2, 1) := by decide +kernel
theorem d_T_drawHolds_3 : decode b_T_drawHolds 3 = .ok (.invokevirtual 139, 3) := by decide +kernel
theorem d_T_drawHolds_6 : decode b_T_drawHolds 6 = .ok (.iconst 0, 1) := by decide +kernel
theorem d_T_drawHolds_7 : decode b_T_drawHolds 7 = .ok (.istore_n 3, 1) := by decide +kernel
theorem d_T_drawHolds_8 : decode b_T_drawHolds 8 = .ok (.iload_n 3, 1) := by decide +kernel
theorem d_T_drawHolds_9 : decode b_T_drawHolds 9 = .ok (.bipush 8, 2) := by decide +kernel
theorem d_T_drawHolds_11 : decode b_T_drawHolds 11 = .ok (.if_icmp .ge 38, 3) := by decide +kernel
theorem d_T_drawHolds_14 : decode b_T_drawHolds 14 = .ok (.iconst 0, 1) := by decide +kernel
theorem d_T_drawHolds_15 : decode b_T_drawHolds 15 = .ok (.istore 4, 2) := by decide +kernel
theorem d_T_drawHolds_17 : decode b_T_drawHolds 17 = .ok (.iload 4, 2) := by decide +kernel
theorem d_T_drawHolds_19 : decode b_T_drawHolds 19 = .ok (.iconst 2, 1) := by decide +kernel
theorem d_T_drawHolds_20 : decode b_T_drawHolds 20 = .ok (.if_icmp .ge 23, 3) := by decide +kernel
theorem d_T_drawHolds_23 : decode b_T_drawHolds 23 = .ok (.aload_n 1, 1) := by decide +kernel
theorem d_T_drawHolds_24 : decode b_T_drawHolds 24 = .ok (.iload_n 3, 1) := by decide +kernel
theorem d_T_drawHolds_25 : decode b_T_drawHolds 25 = .ok (.iload 4, 2) := by decide +kernel
theorem d_T_drawHolds_27 : decode b_T_drawHolds 27 = .ok (.aload_n 0, 1) := by decide +kernel
theorem d_T_drawHolds_28 : decode b_T_drawHolds 28 = .ok (.iload_n 3, 1) := by decide +kernel
theorem d_T_drawHolds_29 : decode b_T_drawHolds 29 = .ok (.iload 4, 2) := by decide +kernel
theorem d_T_drawHolds_31 : decode b_T_drawHolds 31 = .ok (.invokevirtual 136, 3) := by decide +kernel
theorem d_T_drawHolds_34 : decode b_T_drawHolds 34 = .ok (.invokevirtual 145, 3) := by decide +kernel
theorem d_T_drawHolds_37 : decode b_T_drawHolds 37 = .ok (.iinc 4 1, 3) := by decide +kernel
theorem d_T_drawHolds_40 : decode b_T_drawHolds 40 = .ok (.goto (-23), 3) := by decide +kernel
theorem d_T_drawHolds_43 : decode b_T_drawHolds 43 = .ok (.iinc 3 1, 3) := by decide +kernel
theorem d_T_drawHolds_46 : decode b_T_drawHolds 46 = .ok (.goto (-38), 3) := by decide +kernel
theorem d_T_drawHolds_49 : decode b_T_drawHolds 49 = .ok (.return_, 1) := by decide +kernel
theorem d_T_drawPoints_0 : decode b_T_drawPoints 0 = .ok (.aload_n 1, 1) := by decide +kernel
theorem d_T_drawPoints_1 : decode b_T_drawPoints 1 = .ok (.iconst 0, 1) := by decide +kernel
theorem d_T_drawPoints_2 : decode b_T_drawPoints 2 = .ok (.iload_n 2, 1) := by decide +kernel
theorem d_T_drawPoints_3 : decode b_T_drawPoints 3 = .ok (.invokevirtual 139, 3) := by decide +kernel
theorem d_T_drawPoints_6 : decode b_T_drawPoints 6 = .ok (.iconst 0, 1) := by decide +kernel
theorem d_T_drawPoints_7 : decode b_T_drawPoints 7 = .ok (.istore_n 3, 1) := by decide +kernel
theorem d_T_drawPoints_8 : decode b_T_drawPoints 8 = .ok (.iload_n 3, 1) := by decide +kernel
theorem d_T_drawPoints_9 : decode b_T_drawPoints 9 = .ok (.bipush 8, 2) := by decide +kernel
theorem d_T_drawPoints_11 : decode b_T_drawPoints 11 = .ok (.if_icmp .ge 39, 3) := by decide +kernel
theorem d_T_drawPoints_14 : decode b_T_drawPoints 14 = .ok (.iconst 0, 1) := by decide +kernel
theorem d_T_drawPoints_15 : decode b_T_drawPoints 15 = .ok (.istore 4, 2) := by decide +kernel
theorem d_T_drawPoints_17 : decode b_T_drawPoints 17 = .ok (.iload 4, 2) := by decide +kernel
theorem d_T_drawPoints_19 : decode b_T_drawPoints 19 = .ok (.bipush 16, 2) := by decide +kernel
theorem d_T_drawPoints_21 : decode b_T_drawPoints 21 = .ok (.if_icmp .ge 23, 3) := by decide +kernel
theorem d_T_drawPoints_24 : decode b_T_drawPoints 24 = .ok (.aload_n 1, 1) := by decide +kernel
theorem d_T_drawPoints_25 : decode b_T_drawPoints 25 = .ok (.iload_n 3, 1) := by decide +kernel
theorem d_T_drawPoints_26 : decode b_T_drawPoints 26 = .ok (.iload 4, 2) := by decide +kernel
theorem d_T_drawPoints_28 : decode b_T_drawPoints 28 = .ok (.aload_n 0, 1) := by decide +kernel
theorem d_T_drawPoints_29 : decode b_T_drawPoints 29 = .ok (.iload_n 3, 1) := by decide +kernel
theorem d_T_drawPoints_30 : decode b_T_drawPoints 30 = .ok (.iload 4, 2) := by decide +kernel
theorem d_T_drawPoints_32 : decode b_T_drawPoints 32 = .ok (.invokevirtual 96, 3) := by decide +kernel
theorem d_T_drawPoints_35 : decode b_T_drawPoints 35 = .ok (.invokevirtual 145, 3) := by decide +kernel
theorem d_T_drawPoints_38 : decode b_T_drawPoints 38 = .ok (.iinc 4 1, 3) := by decide +kernel
theorem d_T_drawPoints_41 : decode b_T_drawPoints 41 = .ok (.goto (-24), 3) := by decide +kernel
theorem d_T_drawPoints_44 : decode b_T_drawPoints 44 = .ok (.iinc 3 1, 3) := by decide +kernel
theorem d_T_drawPoints_47 : decode b_T_drawPoints 47 = .ok (.goto (-39), 3) := by decide +kernel
theorem d_T_drawPoints_50 : decode b_T_drawPoints 50 = .ok (.return_, 1) := by decide +kernel
end
section
section RW
variable {own : String} {p : Program} {l : Launch} {e : Env} {R : Room} {s : State} {m : MethodId} {args : Array Value} {below : List Frame} {meth : Method} {c : Code} {Q : State → Prop} {X : wX} {nL : Nat} {L : List (Nat × Value)} {σ : sg} {pc : Nat} {st : List Value} {cc : ByteArray}
theorem ld_24 (F : fx_ p s m args c cc nL own X) {i : Nat} (hi : i < 3) (hd : decode cc pc = .ok (.iaload, 1)) (k : vv_ p l e R s m args below meth c Q X nL L σ (pc + 1) (.int (nI (σ 24 i)) :: st)) : vv_ p l e R s m args below meth c Q X nL L σ pc (.int (nI i) :: .ref (adr X 24) :: st) := qv_iald F 24 rfl hi (by decide) hd k
theorem sv_24 (F : fx_ p s m args c cc nL own X) {i x : Nat} (hi : i < 3) (hd : decode cc pc = .ok (.iastore, 1)) (k : vv_ p l e R s m args below meth c Q X nL L (us σ 24 i x) (pc + 1) st) : vv_ p l e R s m args below meth c Q X nL L σ pc (.int (nI x) :: .int (nI i) :: .ref (adr X 24) :: st) := qv_iast F 24 rfl hi (by decide) hd k
theorem g_D_11 (F : fx_ p s m args c cc nL R_D X) (hd : decode cc pc = .ok (.getfield 11, 3)) (k : vv_ p l e R s m args below meth c Q X nL L σ (pc + 3) (.ref (adr X 24) :: st)) : vv_ p l e R s m args below meth c Q X nL L σ pc (.ref (adr X 4) :: st) := qv_getr F (ref := R_D) (C := R_D) (T := F_D) (N := 6) in_D 4 rfl rfl 0 (by decide) (by decide +kernel) rfl rfl hd k
theorem p_D_18 (F : fx_ p s m args c cc nL R_D X) {x : Nat} (hd : decode cc pc = .ok (.putfield 18, 3)) (k : vv_ p l e R s m args below meth c Q X nL L (us σ 4 2 x) (pc + 3) st) : vv_ p l e R s m args below meth c Q X nL L σ pc (.int (nI x) :: .ref (adr X 4) :: st) := qv_put F (ref := R_D) (C := R_D) (T := F_D) (N := 6) in_D tf_D tt_D nn_D 4 rfl rfl rfl 2 (by decide) (by decide +kernel) rfl rfl (ty := .int) (by decide +kernel) rfl rfl rfl hd k
theorem i_A_13v (F : fx_ p s m args c cc nL R_A X) {v0 v1 v2 : Value} {rest : List Value} {d : Nat} {τ : sg} (hM : mt_ l X y_A_rangeCheck w_A_rangeCheck d [v0, v1, v2] σ (ev_ τ)) (hR : d + 1 ≤ R.frames ∧ 8 + (3 + 11) + 30 * d ≤ R.locals) (hw : (rest.map fun v => v.category).sum ≤ 8) (hd : decode cc pc = .ok (.invokestatic 13, 3)) (k : vv_ p l e R s m args below meth c Q X nL L τ (pc + 3) rest) : vv_ p l e R s m args below meth c Q X nL L σ pc (v2 :: v1 :: v0 :: rest) :=
  qv_callS F (maxL := 3) (ret := none) (n := 3) (as := [v0, v1, v2]) (rest := rest) (by decide +kernel) (by decide +kernel) (by decide +kernel) (by decide +kernel) (by decide +kernel) hM rfl hR hw hd (fun r τ' hp => by obtain ⟨rfl, rfl⟩ := hp; exact k)
theorem i_D_37v (F : fx_ p s m args c cc nL R_D X) {v0 v1 v2 v3 : Value} {rest : List Value} {d : Nat} {τ : sg} (hM : mt_ l X y_A_fill4 w_A_fill4 d [v0, v1, v2, v3] σ (ev_ τ)) (hR : d + 1 ≤ R.frames ∧ 8 + (5 + 11) + 30 * d ≤ R.locals) (hw : (rest.map fun v => v.category).sum ≤ 8) (hd : decode cc pc = .ok (.invokestatic 37, 3)) (k : vv_ p l e R s m args below meth c Q X nL L τ (pc + 3) rest) : vv_ p l e R s m args below meth c Q X nL L σ pc (v3 :: v2 :: v1 :: v0 :: rest) :=
  qv_callS F (maxL := 5) (ret := none) (n := 4) (as := [v0, v1, v2, v3]) (rest := rest) (by decide +kernel) (by decide +kernel) (by decide +kernel) (by decide +kernel) (by decide +kernel) hM rfl hR hw hd (fun r τ' hp => by obtain ⟨rfl, rfl⟩ := hp; exact k)
theorem i_T_139v (F : fx_ p s m args c cc nL R_T X) {v0 v1 : Value} {rest : List Value} {d : Nat} {τ : sg} (hM : mt_ l X y_D_begin w_D_begin d [.ref (adr X 4), v0, v1] σ (ev_ τ)) (hR : d + 1 ≤ R.frames ∧ 8 + (6 + 11) + 30 * d ≤ R.locals) (hw : (rest.map fun v => v.category).sum ≤ 8) (hd : decode cc pc = .ok (.invokevirtual 139, 3)) (k : vv_ p l e R s m args below meth c Q X nL L τ (pc + 3) rest) : vv_ p l e R s m args below meth c Q X nL L σ pc (v1 :: v0 :: .ref (adr X 4) :: rest) :=
  qv_callV F (maxL := 6) (ret := none) (n := 2) (as := [v0, v1]) (rest := rest) 4 rfl rfl (by decide +kernel) (by decide +kernel) (by decide +kernel) (by decide +kernel) (by decide +kernel) (by decide +kernel) hM rfl hR hw hd (fun r τ' hp => by obtain ⟨rfl, rfl⟩ := hp; exact k)
theorem i_T_145v (F : fx_ p s m args c cc nL R_T X) {v0 v1 v2 : Value} {rest : List Value} {d : Nat} {τ : sg} (hM : mt_ l X y_D_drawRows w_D_drawRows d [.ref (adr X 4), v0, v1, v2] σ (ev_ τ)) (hR : d + 1 ≤ R.frames ∧ 8 + (6 + 11) + 30 * d ≤ R.locals) (hw : (rest.map fun v => v.category).sum ≤ 8) (hd : decode cc pc = .ok (.invokevirtual 145, 3)) (k : vv_ p l e R s m args below meth c Q X nL L τ (pc + 3) rest) : vv_ p l e R s m args below meth c Q X nL L σ pc (v2 :: v1 :: v0 :: .ref (adr X 4) :: rest) :=
  qv_callV F (maxL := 6) (ret := none) (n := 3) (as := [v0, v1, v2]) (rest := rest) 4 rfl rfl (by decide +kernel) (by decide +kernel) (by decide +kernel) (by decide +kernel) (by decide +kernel) (by decide +kernel) hM rfl hR hw hd (fun r τ' hp => by obtain ⟨rfl, rfl⟩ := hp; exact k)
end RW
end
section
/-! drawing -/
set_option maxRecDepth 100000 in
set_option maxHeartbeats 4000000 in
theorem c_A_rangeCheck (l : Launch) (X : wX) (σ : sg) (n a b : Nat) (hn : n < 2 ^ 31) (h1 : a ≤ b) (h2 : b ≤ n) : mt_ l X y_A_rangeCheck w_A_rangeCheck 0 [.int (nI n), .int (nI a), .int (nI b)] σ (ev_ σ) := by
  refine mt_of (own := R_A) rfl pl_A (Nat.le_of_ble_eq_true rfl) ?_
  intro zp ze zs zm za zb zt zc F hr hlk
  refine qv_sub (L' := [(0, _), (1, _), (2, _)]) [0, 1, 2] rfl ?_
  refine qv_iload_n F d_A_rangeCheck_0 1 rfl ?_
  refine qv_iload_n F d_A_rangeCheck_1 2 rfl ?_
  refine qv_icmple F d_A_rangeCheck_2 rfl (by omega) (by omega) (fun hb => ?_) (fun hb => ?_)
  ·
    refine qv_iload_n F d_A_rangeCheck_46 1 rfl ?_
    refine qv_ifge F d_A_rangeCheck_47 (tgt := 59) rfl (by omega) ?_
    refine qv_iload_n F d_A_rangeCheck_59 2 rfl ?_
    refine qv_iload_n F d_A_rangeCheck_60 0 rfl ?_
    refine qv_icmple F d_A_rangeCheck_61 rfl (by omega) (by omega) (fun hb => ?_) (fun hb => ?_)
    ·
      exact qv_ret F hr hlk d_A_rangeCheck_73 (ev_of rfl)
    ·
      omega
  ·
    omega
set_option maxRecDepth 100000 in
set_option maxHeartbeats 4000000 in
theorem c_A_fill4 (l : Launch) (X : wX) (σ : sg) (q n a b x : Nat) (hq : dz_[q]? = some (.inl (false, n))) (hnq : n < 2 ^ 31) (h1 : a ≤ b) (h2 : b ≤ n) : mt_ l X y_A_fill4 w_A_fill4 1 [.ref (adr X q), .int (nI a), .int (nI b), .int (nI x)] σ (ev_ (ua σ q (fun k => if a ≤ k ∧ k < b then x else σ q k))) := by
  refine mt_of (own := R_A) rfl pl_A (Nat.le_of_ble_eq_true rfl) ?_
  intro zp ze zs zm za zb zt zc F hr hlk
  refine qv_sub (L' := [(0, _), (1, _), (2, _), (3, _)]) [0, 1, 2, 3] rfl ?_
  refine qv_aload_n F d_A_fill4_0 0 rfl ?_
  refine qv_alen F q hq d_A_fill4_1 ?_
  refine qv_iload_n F d_A_fill4_2 1 rfl ?_
  refine qv_iload_n F d_A_fill4_3 2 rfl ?_
  refine i_A_13v F (c_A_rangeCheck l X σ n a b hnq h1 h2) (by decide) (Nat.le_of_ble_eq_true rfl) d_A_fill4_4 ?_
  refine qv_iload_n F d_A_fill4_7 1 rfl ?_
  refine qv_istore (L' := [(4, _), (0, _), (1, _), (2, _), (3, _)]) F d_A_fill4_8 (by decide) rfl ?_
  have lp := lu_up (fun i (g : Nat → Nat) => vv_ zp l ze (rr_ 1) zs zm za zb zt zc (MQ zb (mq_ X (ev_ (ua σ q (fun k => if a ≤ k ∧ k < b then x else σ q k)))) za zs 0 0 (aw_ X)) X 5 [(4, .int (nI i)), (0, .ref (adr X q)), (1, .int (nI a)), (2, .int (nI b)), (3, .int (nI x))] (ua σ q g) 10 []) (fun i g => a ≤ i ∧ ∀ k, g k = if a ≤ k ∧ k < i then x else σ q k) b ?_ ?_ a (σ q) h1 ⟨Nat.le_refl _, fun k => by rw [if_neg (by omega)]⟩
  · exact qv_st (ua_id σ q).symm lp
  · intro g hg
    have e : g = fun k => if a ≤ k ∧ k < b then x else σ q k := by funext k; exact hg.2 k
    subst e
    refine qv_iload F d_A_fill4_10 0 rfl ?_
    refine qv_iload_n F d_A_fill4_12 3 rfl ?_
    refine qv_icmpge F d_A_fill4_13 rfl (by omega) (by omega) (fun hb => ?_) (fun hb => ?_)
    ·
      exact qv_ret F hr hlk d_A_fill4_27 (ev_of rfl)
    ·
      omega
  · intro i g hi hg ih
    refine qv_iload F d_A_fill4_10 0 rfl ?_
    refine qv_iload_n F d_A_fill4_12 3 rfl ?_
    refine qv_icmpge F d_A_fill4_13 rfl (by omega) (by omega) (fun hb => ?_) (fun hb => ?_)
    ·
      omega
    ·
      refine qv_aload_n F d_A_fill4_16 1 rfl ?_
      refine qv_iload F d_A_fill4_17 0 rfl ?_
      refine qv_iload_n F d_A_fill4_19 4 rfl ?_
      refine qv_iast F q hq (by omega) hnq d_A_fill4_20 ?_
      refine qv_st (us_ua σ q g i x) ?_
      refine qv_iinc (L' := [(4, _), (0, _), (1, _), (2, _), (3, _)]) F _ d_A_fill4_21 0 rfl (ii_1 _) (by decide) rfl ?_
      refine qv_goto F d_A_fill4_24 rfl ?_
      refine ih _ ⟨by omega, fun k => ?_⟩
      by_cases e : k = i
      · subst e; rw [up_eq, if_pos (by omega)]
      · rw [up_ne e, hg.2 k]
        by_cases e2 : a ≤ k ∧ k < i
        · rw [if_pos e2, if_pos (by omega)]
        · rw [if_neg e2, if_neg (by omega)]
set_option maxRecDepth 100000 in
set_option maxHeartbeats 4000000 in
theorem c_D_begin (l : Launch) (X : wX) (σ : sg) (w o : Nat) (hw : w < 2) (ho : o < 6) : mt_ l X y_D_begin w_D_begin 2 [.ref (adr X 4), .int (nI w), .int (nI o)] σ (ev_ (dg_ σ w o (fun k => if k < rw_ w then 0 else σ 25 k))) := by
  refine mt_of (own := R_D) rfl pl_D (Nat.le_of_ble_eq_true rfl) ?_
  intro zp ze zs zm za zb zt zc F hr hlk
  refine qv_sub (L' := [(0, _), (1, _), (2, _)]) [0, 1, 2] rfl ?_
  obtain ⟨t1, t2, z1, z2, z3, z4⟩ := F.2.2.2.2
  have hst : ∀ i, i < 18 → staT.getD i 0 < 3 := by decide
  have hbt : ∀ i, i < 6 → bitT.getD i 0 ≤ 4 := by decide
  have s2 := hst (o * 3 + 2) (by omega)
  have s1 := hst (o * 3 + 1) (by omega)
  have s0 := hst (o * 3 + 0) (by omega)
  have b2 := hbt (w * 3 + staT.getD (o * 3 + 2) 0) (by omega)
  have b1 := hbt (w * 3 + staT.getD (o * 3 + 1) 0) (by omega)
  have b0 := hbt (w * 3 + staT.getD (o * 3 + 0) 0) (by omega)
  refine qv_iconst F (nI 0) d_D_begin_0 ic_0 ?_
  refine qv_istore_n (L' := [(3, _), (0, _), (1, _), (2, _)]) F d_D_begin_1 (by decide) rfl ?_
  refine qv_iconst F (nI 2) d_D_begin_2 ic_2 ?_
  refine qv_istore (L' := [(4, _), (3, _), (0, _), (1, _), (2, _)]) F d_D_begin_3 (by decide) rfl ?_
  refine qv_iload F d_D_begin_5 0 rfl ?_
  refine qv_ifltF F d_D_begin_7 (tgt := 49) rfl (by decide) ?_
  refine qv_gets F z3 (by decide +kernel) d_D_begin_10 ?_
  refine qv_iload_n F d_D_begin_13 4 rfl ?_
  refine qv_iconst F (nI 3) d_D_begin_14 ic_3 ?_
  refine qv_imul F d_D_begin_15 ?_
  refine qv_iload F d_D_begin_16 0 rfl ?_
  refine qv_iadd F d_D_begin_18 ?_
  refine qv_tald F z4 (by omega) (by decide) d_D_begin_19 ?_
  refine qv_istore (L' := [(5, _), (4, _), (3, _), (0, _), (1, _), (2, _)]) F d_D_begin_20 (by decide) rfl ?_
  refine qv_aload_n F d_D_begin_22 3 rfl ?_
  refine g_D_11 F d_D_begin_23 ?_
  refine qv_iload F d_D_begin_26 0 rfl ?_
  refine qv_iload_n F d_D_begin_28 2 rfl ?_
  refine sv_24 F s2 d_D_begin_29 ?_
  refine qv_iload_n F d_D_begin_30 2 rfl ?_
  refine qv_gets F z1 (by decide +kernel) d_D_begin_31 ?_
  refine qv_iload_n F d_D_begin_34 4 rfl ?_
  refine qv_iconst F (nI 3) d_D_begin_35 ic_3 ?_
  refine qv_imul F d_D_begin_36 ?_
  refine qv_iload F d_D_begin_37 0 rfl ?_
  refine qv_iadd F d_D_begin_39 ?_
  refine qv_tald F z2 (by omega) (by decide) d_D_begin_40 ?_
  refine qv_iadd F d_D_begin_41 ?_
  refine qv_istore_n (L' := [(3, _), (5, _), (4, _), (0, _), (1, _), (2, _)]) F d_D_begin_42 (by decide) rfl ?_
  refine qv_iinc (L' := [(4, _), (3, _), (5, _), (0, _), (1, _), (2, _)]) F _ d_D_begin_43 2 rfl (show nI 2 + Int32.ofInt (-1) = nI 1 by decide) (by decide) rfl ?_
  refine qv_goto F d_D_begin_46 rfl ?_
  refine qv_iload F d_D_begin_5 0 rfl ?_
  refine qv_ifltF F d_D_begin_7 (tgt := 49) rfl (by decide) ?_
  refine qv_gets F z3 (by decide +kernel) d_D_begin_10 ?_
  refine qv_iload_n F d_D_begin_13 5 rfl ?_
  refine qv_iconst F (nI 3) d_D_begin_14 ic_3 ?_
  refine qv_imul F d_D_begin_15 ?_
  refine qv_iload F d_D_begin_16 0 rfl ?_
  refine qv_iadd F d_D_begin_18 ?_
  refine qv_tald F z4 (by omega) (by decide) d_D_begin_19 ?_
  refine qv_istore (L' := [(5, _), (4, _), (3, _), (0, _), (1, _), (2, _)]) F d_D_begin_20 (by decide) rfl ?_
  refine qv_aload_n F d_D_begin_22 3 rfl ?_
  refine g_D_11 F d_D_begin_23 ?_
  refine qv_iload F d_D_begin_26 0 rfl ?_
  refine qv_iload_n F d_D_begin_28 2 rfl ?_
  refine sv_24 F s1 d_D_begin_29 ?_
  refine qv_iload_n F d_D_begin_30 2 rfl ?_
  refine qv_gets F z1 (by decide +kernel) d_D_begin_31 ?_
  refine qv_iload_n F d_D_begin_34 4 rfl ?_
  refine qv_iconst F (nI 3) d_D_begin_35 ic_3 ?_
  refine qv_imul F d_D_begin_36 ?_
  refine qv_iload F d_D_begin_37 0 rfl ?_
  refine qv_iadd F d_D_begin_39 ?_
  refine qv_tald F z2 (by omega) (by decide) d_D_begin_40 ?_
  refine qv_iadd F d_D_begin_41 ?_
  refine qv_istore_n (L' := [(3, _), (5, _), (4, _), (0, _), (1, _), (2, _)]) F d_D_begin_42 (by decide) rfl ?_
  refine qv_iinc (L' := [(4, _), (3, _), (5, _), (0, _), (1, _), (2, _)]) F _ d_D_begin_43 2 rfl (show nI 1 + Int32.ofInt (-1) = nI 0 by decide) (by decide) rfl ?_
  refine qv_goto F d_D_begin_46 rfl ?_
  refine qv_iload F d_D_begin_5 0 rfl ?_
  refine qv_ifltF F d_D_begin_7 (tgt := 49) rfl (by decide) ?_
  refine qv_gets F z3 (by decide +kernel) d_D_begin_10 ?_
  refine qv_iload_n F d_D_begin_13 5 rfl ?_
  refine qv_iconst F (nI 3) d_D_begin_14 ic_3 ?_
  refine qv_imul F d_D_begin_15 ?_
  refine qv_iload F d_D_begin_16 0 rfl ?_
  refine qv_iadd F d_D_begin_18 ?_
  refine qv_tald F z4 (by omega) (by decide) d_D_begin_19 ?_
  refine qv_istore (L' := [(5, _), (4, _), (3, _), (0, _), (1, _), (2, _)]) F d_D_begin_20 (by decide) rfl ?_
  refine qv_aload_n F d_D_begin_22 3 rfl ?_
  refine g_D_11 F d_D_begin_23 ?_
  refine qv_iload F d_D_begin_26 0 rfl ?_
  refine qv_iload_n F d_D_begin_28 2 rfl ?_
  refine sv_24 F s0 d_D_begin_29 ?_
  refine qv_iload_n F d_D_begin_30 2 rfl ?_
  refine qv_gets F z1 (by decide +kernel) d_D_begin_31 ?_
  refine qv_iload_n F d_D_begin_34 4 rfl ?_
  refine qv_iconst F (nI 3) d_D_begin_35 ic_3 ?_
  refine qv_imul F d_D_begin_36 ?_
  refine qv_iload F d_D_begin_37 0 rfl ?_
  refine qv_iadd F d_D_begin_39 ?_
  refine qv_tald F z2 (by omega) (by decide) d_D_begin_40 ?_
  refine qv_iadd F d_D_begin_41 ?_
  refine qv_istore_n (L' := [(3, _), (5, _), (4, _), (0, _), (1, _), (2, _)]) F d_D_begin_42 (by decide) rfl ?_
  refine qv_iinc (L' := [(4, _), (3, _), (5, _), (0, _), (1, _), (2, _)]) F _ d_D_begin_43 2 rfl (show nI 0 + Int32.ofInt (-1) = (-1) by decide) (by decide) rfl ?_
  refine qv_goto F d_D_begin_46 rfl ?_
  refine qv_iload F d_D_begin_5 0 rfl ?_
  refine qv_ifltT F d_D_begin_7 (tgt := 49) rfl (by decide) ?_
  have hp : 1 * 2 ^ (0 + bitT.getD (w * 3 + staT.getD (o * 3 + 2) 0) 0 + bitT.getD (w * 3 + staT.getD (o * 3 + 1) 0) 0 + bitT.getD (w * 3 + staT.getD (o * 3 + 0) 0) 0) < 2 ^ 32 := by
    rw [bg_rw hw ho]
    exact Nat.lt_of_le_of_lt (rw_le w) (by decide)
  refine qv_aload_n F d_D_begin_49 3 rfl ?_
  refine qv_iconst F (nI 1) d_D_begin_50 ic_1 ?_
  refine qv_iload_n F d_D_begin_51 1 rfl ?_
  refine qv_ishl F d_D_begin_52 (by omega) hp ?_
  rw [bg_rw hw ho]
  refine p_D_18 F d_D_begin_53 ?_
  refine qv_aload_n F d_D_begin_56 3 rfl ?_
  refine g_D_15 F d_D_begin_57 ?_
  refine qv_iconst F (nI 0) d_D_begin_60 ic_0 ?_
  refine qv_aload_n F d_D_begin_61 3 rfl ?_
  refine g_D_18 F d_D_begin_62 ?_
  refine qv_iconst F (nI 0) d_D_begin_65 ic_0 ?_
  refine i_D_37v F (c_A_fill4 l X _ 25 1024 0 (rw_ w) 0 rfl (by decide) (Nat.zero_le _) (rw_le w)) (by decide) (Nat.le_of_ble_eq_true rfl) d_D_begin_66 ?_
  refine qv_ext 24 (z := false) (n := 3) (g := sh_ w o) rfl (fun k hk => (bg_sh (σ 24) hw ho k hk).trans ?_) ?_
  · show bgc_ (σ 24) w o k = us (us (us σ 24 (staT.getD (o * 3 + 2) 0) 0) 24 (staT.getD (o * 3 + 1) 0) (0 + bitT.getD (w * 3 + staT.getD (o * 3 + 2) 0) 0)) 24 (staT.getD (o * 3 + 0) 0) (0 + bitT.getD (w * 3 + staT.getD (o * 3 + 2) 0) 0 + bitT.getD (w * 3 + staT.getD (o * 3 + 1) 0) 0) 24 k
    rfl
  · refine qv_st (σ' := dg_ σ w o (fun k => if k < rw_ w then 0 else σ 25 k)) ?_ ?_
    · have e : (fun k => if 0 ≤ k ∧ k < rw_ w then 0 else σ 25 k) = fun k => if k < rw_ w then 0 else σ 25 k := by
        funext k
        by_cases hk : k < rw_ w
        · rw [if_pos hk, if_pos ⟨Nat.zero_le _, hk⟩]
        · rw [if_neg hk, if_neg (fun z => hk z.2)]
      rw [← bg_st σ (bgc_ (σ 24) w o) w o 0, ← e]
      have e2 : us (us (us σ 24 (staT.getD (o * 3 + 2) 0) 0) 24 (staT.getD (o * 3 + 1) 0) (0 + bitT.getD (w * 3 + staT.getD (o * 3 + 2) 0) 0)) 24 (staT.getD (o * 3 + 0) 0) (0 + bitT.getD (w * 3 + staT.getD (o * 3 + 2) 0) 0 + bitT.getD (w * 3 + staT.getD (o * 3 + 1) 0) 0) = ua σ 24 (bgc_ (σ 24) w o) := by
        unfold us
        rw [ua_ua, ua_ua]
        rfl
      rw [← e2]
      rfl
    ·
      exact qv_ret F hr hlk d_D_begin_69 (ev_of rfl)
set_option maxRecDepth 100000 in
set_option maxHeartbeats 4000000 in
theorem c_D_drawRows (l : Launch) (X : wX) (σ : sg) (w o a b x : Nat) (hw : w < 2) (ho : o < 6) (h24 : σ 24 = sh_ w o) (ha : a < 8) (hb0 : b < nb2_ w) (hx : x < 256) : mt_ l X y_D_drawRows w_D_drawRows 0 [.ref (adr X 4), .int (nI a), .int (nI b), .int (nI x)] σ (ev_ (ua σ 25 (if x = 0 then σ 25 else dr_ w o a b x 8 (σ 25)))) := by
  refine mt_of (own := R_D) rfl pl_D (Nat.le_of_ble_eq_true rfl) ?_
  intro zp ze zs zm za zb zt zc F hr hlk
  refine qv_sub (L' := [(0, _), (1, _), (2, _), (3, _)]) [0, 1, 2, 3] rfl ?_
  obtain ⟨s0, s1, s2⟩ := sh_7 hw ho
  have hb16 : b < 16 := by
    have h := hb0
    unfold nb2_ at h
    by_cases e : w = 0
    · rw [if_pos e] at h; exact h
    · rw [if_neg e] at h; omega
  have p0 := mul_p2 (s := sh_ w o 0) (show a < 16 by omega) s0
  have p1 := mul_p2 (s := sh_ w o 1) hb16 s1
  refine qv_iload_n F d_D_drawRows_0 3 rfl ?_
  refine qv_ifne F d_D_drawRows_1 rfl (by omega) (fun hb => ?_) (fun hb => ?_)
  ·
    rw [if_neg hb]
    refine qv_iload_n F d_D_drawRows_5 1 rfl ?_
    refine qv_aload_n F d_D_drawRows_6 0 rfl ?_
    refine g_D_11 F d_D_drawRows_7 ?_
    refine qv_iconst F (nI 0) d_D_drawRows_10 ic_0 ?_
    refine ld_24 F (by omega) d_D_drawRows_11 ?_
    refine qv_ishl F d_D_drawRows_12 (show σ 24 0 < 32 by rw [h24]; omega) (show a * 2 ^ σ 24 0 < 2 ^ 32 by rw [h24]; omega) ?_
    refine qv_iload_n F d_D_drawRows_13 2 rfl ?_
    refine qv_aload_n F d_D_drawRows_14 0 rfl ?_
    refine g_D_11 F d_D_drawRows_15 ?_
    refine qv_iconst F (nI 1) d_D_drawRows_18 ic_1 ?_
    refine ld_24 F (by omega) d_D_drawRows_19 ?_
    refine qv_ishl F d_D_drawRows_20 (show σ 24 1 < 32 by rw [h24]; omega) (show b * 2 ^ σ 24 1 < 2 ^ 32 by rw [h24]; omega) ?_
    refine qv_iadd F d_D_drawRows_21 ?_
    refine qv_istore (L' := [(4, _), (0, _), (1, _), (2, _), (3, _)]) F d_D_drawRows_22 (by decide) rfl ?_
    rw [h24]
    refine qv_iconst F (nI 0) d_D_drawRows_24 ic_0 ?_
    refine qv_istore (L' := [(5, _), (4, _), (0, _), (1, _), (2, _), (3, _)]) F d_D_drawRows_25 (by decide) rfl ?_
    have lp := lu_up (fun k (_ : Unit) => vv_ zp l ze (rr_ 0) zs zm za zb zt zc (MQ zb (mq_ X (ev_ (ua σ 25 (if x = 0 then σ 25 else dr_ w o a b x 8 (σ 25))))) za zs 0 0 (aw_ X)) X 6 [(5, .int (nI k)), (4, .int (nI (a * 2 ^ sh_ w o 0 + b * 2 ^ sh_ w o 1))), (0, .ref (adr X 4)), (1, .int (nI a)), (2, .int (nI b)), (3, .int (nI x))] (ua σ 25 (dr_ w o a b x k (σ 25))) 27 []) (fun _ _ => True) 8 ?_ ?_ 0 () (Nat.zero_le _) trivial
    · rw [if_neg hb] at lp
      exact qv_st (ua_id σ 25).symm lp
    · intro _ _
      rw [if_neg hb]
      refine qv_iload F d_D_drawRows_27 0 rfl ?_
      refine qv_bipush F (nI 8) d_D_drawRows_29 bic_8 ?_
      refine qv_icmpge F d_D_drawRows_31 rfl (by decide) (by decide) (fun hb => ?_) (fun hb => ?_)
      ·
        exact qv_ret F hr hlk d_D_drawRows_63 (ev_of rfl)
      ·
        exact absurd hb (by decide)
    · intro k _ hk _ ih
      have ih := ih () trivial
      have p2 := mul_p2 (s := sh_ w o 2) (show k < 16 by omega) s2
      have hix := ix_lt hw ho a b k ha hb0 hk
      have hrw := rw_le w
      have e1 : dr_ w o a b x (k + 1) (σ 25) = va_up (dr_ w o a b x k (σ 25)) (ix_ w o a b k) (x.testBit k).toNat := rfl
      rw [e1] at ih
      generalize dr_ w o a b x k (σ 25) = g at ih ⊢
      have e2 : us (ua σ 25 g) 25 (a * 2 ^ sh_ w o 0 + b * 2 ^ sh_ w o 1 + k * 2 ^ σ 24 2) (x / 2 ^ k &&& 1) = ua σ 25 (va_up g (ix_ w o a b k) (x.testBit k).toNat) := by
        rw [us_ua, bt_and, h24]
        rfl
      refine qv_iload F d_D_drawRows_27 0 rfl ?_
      refine qv_bipush F (nI 8) d_D_drawRows_29 bic_8 ?_
      refine qv_icmpge F d_D_drawRows_31 rfl (by omega) (by omega) (fun hb => ?_) (fun hb => ?_)
      ·
        omega
      ·
        refine qv_aload_n F d_D_drawRows_34 2 rfl ?_
        refine g_D_15 F d_D_drawRows_35 ?_
        refine qv_iload F d_D_drawRows_38 1 rfl ?_
        refine qv_iload F d_D_drawRows_40 0 rfl ?_
        refine qv_aload_n F d_D_drawRows_42 2 rfl ?_
        refine g_D_11 F d_D_drawRows_43 ?_
        refine qv_iconst F (nI 2) d_D_drawRows_46 ic_2 ?_
        refine ld_24 F (by omega) d_D_drawRows_47 ?_
        refine qv_ishl F d_D_drawRows_48 (show σ 24 2 < 32 by rw [h24]; omega) (show k * 2 ^ σ 24 2 < 2 ^ 32 by rw [h24]; omega) ?_
        refine qv_iadd F d_D_drawRows_49 ?_
        refine qv_iload_n F d_D_drawRows_50 5 rfl ?_
        refine qv_iload F d_D_drawRows_51 0 rfl ?_
        refine qv_ishr F d_D_drawRows_53 (by omega) (by omega) ?_
        refine qv_iconst F (nI 1) d_D_drawRows_54 ic_1 ?_
        refine qv_iand F d_D_drawRows_55 ?_
        refine sv_25 F (show a * 2 ^ sh_ w o 0 + b * 2 ^ sh_ w o 1 + k * 2 ^ σ 24 2 < 1024 by rw [h24]; exact Nat.lt_of_lt_of_le hix hrw) d_D_drawRows_56 ?_
        refine qv_st e2 ?_
        refine qv_iinc (L' := [(5, _), (4, _), (0, _), (1, _), (2, _), (3, _)]) F _ d_D_drawRows_57 0 rfl (ii_1 _) (by decide) rfl ?_
        refine qv_goto F d_D_drawRows_60 rfl ?_
        exact ih
  ·
    rw [if_pos hb, ua_id]
    exact qv_ret F hr hlk d_D_drawRows_4 (ev_of rfl)
set_option maxRecDepth 100000 in
set_option maxHeartbeats 4000000 in
theorem c_T_drawPoints (l : Launch) (X : wX) (σ : sg) (o : Nat) (ho : o < 6) (h21 : ∀ k, σ 21 k < 256) : mt_ l X y_T_drawPoints w_T_drawPoints 3 [.ref (adr X 3), .ref (adr X 4), .int (nI o)] σ (ev_ (dg_ σ 0 o (fun k => if k < rw_ 0 then fn_ 0 o (σ 21) k else σ 25 k))) := by
  refine mt_of (own := R_T) rfl pl_T (Nat.le_of_ble_eq_true rfl) ?_
  intro zp ze zs zm za zb zt zc F hr hlk
  refine qv_sub (L' := [(0, _), (1, _), (2, _)]) [0, 1, 2] rfl ?_
  refine qv_aload_n F d_T_drawPoints_0 1 rfl ?_
  refine qv_iconst F (nI 0) d_T_drawPoints_1 ic_0 ?_
  refine qv_iload_n F d_T_drawPoints_2 2 rfl ?_
  refine i_T_139v F (c_D_begin l X σ 0 o (by decide) ho) (by decide) (Nat.le_of_ble_eq_true rfl) d_T_drawPoints_3 ?_
  refine qv_iconst F (nI 0) d_T_drawPoints_6 ic_0 ?_
  refine qv_istore_n (L' := [(3, _), (0, _), (1, _), (2, _)]) F d_T_drawPoints_7 (by decide) rfl ?_
  have lp := lu_up (fun c (G : Nat → Nat) => vv_ zp l ze (rr_ 3) zs zm za zb zt zc (MQ zb (mq_ X (ev_ (dg_ σ 0 o (fun k => if k < rw_ 0 then fn_ 0 o (σ 21) k else σ 25 k)))) za zs 0 0 (aw_ X)) X 5 [(3, .int (nI c)), (0, .ref (adr X 3)), (1, .ref (adr X 4)), (2, .int (nI o))] (dg_ σ 0 o G) 8 []) (fun c G => dn_ 0 o (σ 21) (σ 25) c 0 G) 8 ?_ ?_ 0 (fun k => if k < rw_ 0 then 0 else σ 25 k) (Nat.zero_le _) dn_0
  · exact lp
  · intro G hG
    rw [dn_end hG]
    refine qv_iload_n F d_T_drawPoints_8 0 rfl ?_
    refine qv_bipush F (nI 8) d_T_drawPoints_9 bic_8 ?_
    refine qv_icmpge F d_T_drawPoints_11 rfl (by decide) (by decide) (fun hb => ?_) (fun hb => ?_)
    ·
      exact qv_ret F hr hlk d_T_drawPoints_50 (ev_of rfl)
    ·
      exact absurd hb (by decide)
  · intro c G hc hG ih
    refine qv_iload_n F d_T_drawPoints_8 0 rfl ?_
    refine qv_bipush F (nI 8) d_T_drawPoints_9 bic_8 ?_
    refine qv_icmpge F d_T_drawPoints_11 rfl (by omega) (by omega) (fun hb => ?_) (fun hb => ?_)
    ·
      omega
    ·
      refine qv_iconst F (nI 0) d_T_drawPoints_14 ic_0 ?_
      refine qv_istore (L' := [(4, _), (3, _), (0, _), (1, _), (2, _)]) F d_T_drawPoints_15 (by decide) rfl ?_
      have lp2 := lu_up (fun v (G : Nat → Nat) => vv_ zp l ze (rr_ 3) zs zm za zb zt zc (MQ zb (mq_ X (ev_ (dg_ σ 0 o (fun k => if k < rw_ 0 then fn_ 0 o (σ 21) k else σ 25 k)))) za zs 0 0 (aw_ X)) X 5 [(4, .int (nI v)), (3, .int (nI c)), (0, .ref (adr X 3)), (1, .ref (adr X 4)), (2, .int (nI o))] (dg_ σ 0 o G) 17 []) (fun v G => dn_ 0 o (σ 21) (σ 25) c v G) 16 ?_ ?_ 0 G (Nat.zero_le _) hG
      · exact lp2
      · intro G hG
        refine qv_iload F d_T_drawPoints_17 0 rfl ?_
        refine qv_bipush F (nI 16) d_T_drawPoints_19 bic_16 ?_
        refine qv_icmpge F d_T_drawPoints_21 rfl (by decide) (by decide) (fun hb => ?_) (fun hb => ?_)
        ·
          refine qv_sub (L' := [(3, _), (0, _), (1, _), (2, _)]) [1, 2, 3, 4] rfl ?_
          refine qv_iinc (L' := [(3, _), (0, _), (1, _), (2, _)]) F _ d_T_drawPoints_44 0 rfl (ii_1 _) (by decide) rfl ?_
          refine qv_goto F d_T_drawPoints_47 rfl ?_
          exact ih G (dn_next hG)
        ·
          exact absurd hb (by decide)
      · intro v G hv hG ih2
        refine qv_iload F d_T_drawPoints_17 0 rfl ?_
        refine qv_bipush F (nI 16) d_T_drawPoints_19 bic_16 ?_
        refine qv_icmpge F d_T_drawPoints_21 rfl (by omega) (by omega) (fun hb => ?_) (fun hb => ?_)
        ·
          omega
        ·
          refine qv_aload_n F d_T_drawPoints_24 3 rfl ?_
          refine qv_iload_n F d_T_drawPoints_25 1 rfl ?_
          refine qv_iload F d_T_drawPoints_26 0 rfl ?_
          refine qv_aload_n F d_T_drawPoints_28 2 rfl ?_
          refine qv_iload_n F d_T_drawPoints_29 1 rfl ?_
          refine qv_iload F d_T_drawPoints_30 0 rfl ?_
          refine i_T_96i F (c_T_pointedTo l X (dg_ σ 0 o G) c v (by omega)) (by decide) (Nat.le_of_ble_eq_true rfl) d_T_drawPoints_32 ?_
          refine i_T_145v F (c_D_drawRows l X (dg_ σ 0 o G) 0 o c v (σ 21 (c * 16 + v)) (by decide) ho rfl hc hv (h21 _)) (by decide) (Nat.le_of_ble_eq_true rfl) d_T_drawPoints_35 ?_
          rw [dg_G]
          refine qv_iinc (L' := [(4, _), (3, _), (0, _), (1, _), (2, _)]) F _ d_T_drawPoints_38 0 rfl (ii_1 _) (by decide) rfl ?_
          refine qv_goto F d_T_drawPoints_41 rfl ?_
          exact ih2 _ (dn_row (by decide) ho hc hv hG)
set_option maxRecDepth 100000 in
set_option maxHeartbeats 4000000 in
theorem c_T_drawHolds (l : Launch) (X : wX) (σ : sg) (o : Nat) (ho : o < 6) (h22 : ∀ k, σ 22 k < 256) : mt_ l X y_T_drawHolds w_T_drawHolds 3 [.ref (adr X 3), .ref (adr X 4), .int (nI o)] σ (ev_ (dg_ σ 1 o (fun k => if k < rw_ 1 then fn_ 1 o (σ 22) k else σ 25 k))) := by
  refine mt_of (own := R_T) rfl pl_T (Nat.le_of_ble_eq_true rfl) ?_
  intro zp ze zs zm za zb zt zc F hr hlk
  refine qv_sub (L' := [(0, _), (1, _), (2, _)]) [0, 1, 2] rfl ?_
  refine qv_aload_n F d_T_drawHolds_0 1 rfl ?_
  refine qv_iconst F (nI 1) d_T_drawHolds_1 ic_1 ?_
  refine qv_iload_n F d_T_drawHolds_2 2 rfl ?_
  refine i_T_139v F (c_D_begin l X σ 1 o (by decide) ho) (by decide) (Nat.le_of_ble_eq_true rfl) d_T_drawHolds_3 ?_
  refine qv_iconst F (nI 0) d_T_drawHolds_6 ic_0 ?_
  refine qv_istore_n (L' := [(3, _), (0, _), (1, _), (2, _)]) F d_T_drawHolds_7 (by decide) rfl ?_
  have lp := lu_up (fun c (G : Nat → Nat) => vv_ zp l ze (rr_ 3) zs zm za zb zt zc (MQ zb (mq_ X (ev_ (dg_ σ 1 o (fun k => if k < rw_ 1 then fn_ 1 o (σ 22) k else σ 25 k)))) za zs 0 0 (aw_ X)) X 5 [(3, .int (nI c)), (0, .ref (adr X 3)), (1, .ref (adr X 4)), (2, .int (nI o))] (dg_ σ 1 o G) 8 []) (fun c G => dn_ 1 o (σ 22) (σ 25) c 0 G) 8 ?_ ?_ 0 (fun k => if k < rw_ 1 then 0 else σ 25 k) (Nat.zero_le _) dn_0
  · exact lp
  · intro G hG
    rw [dn_end hG]
    refine qv_iload_n F d_T_drawHolds_8 0 rfl ?_
    refine qv_bipush F (nI 8) d_T_drawHolds_9 bic_8 ?_
    refine qv_icmpge F d_T_drawHolds_11 rfl (by decide) (by decide) (fun hb => ?_) (fun hb => ?_)
    ·
      exact qv_ret F hr hlk d_T_drawHolds_49 (ev_of rfl)
    ·
      exact absurd hb (by decide)
  · intro c G hc hG ih
    refine qv_iload_n F d_T_drawHolds_8 0 rfl ?_
    refine qv_bipush F (nI 8) d_T_drawHolds_9 bic_8 ?_
    refine qv_icmpge F d_T_drawHolds_11 rfl (by omega) (by omega) (fun hb => ?_) (fun hb => ?_)
    ·
      omega
    ·
      refine qv_iconst F (nI 0) d_T_drawHolds_14 ic_0 ?_
      refine qv_istore (L' := [(4, _), (3, _), (0, _), (1, _), (2, _)]) F d_T_drawHolds_15 (by decide) rfl ?_
      have lp2 := lu_up (fun v (G : Nat → Nat) => vv_ zp l ze (rr_ 3) zs zm za zb zt zc (MQ zb (mq_ X (ev_ (dg_ σ 1 o (fun k => if k < rw_ 1 then fn_ 1 o (σ 22) k else σ 25 k)))) za zs 0 0 (aw_ X)) X 5 [(4, .int (nI v)), (3, .int (nI c)), (0, .ref (adr X 3)), (1, .ref (adr X 4)), (2, .int (nI o))] (dg_ σ 1 o G) 17 []) (fun v G => dn_ 1 o (σ 22) (σ 25) c v G) 2 ?_ ?_ 0 G (Nat.zero_le _) hG
      · exact lp2
      · intro G hG
        refine qv_iload F d_T_drawHolds_17 0 rfl ?_
        refine qv_iconst F (nI 2) d_T_drawHolds_19 ic_2 ?_
        refine qv_icmpge F d_T_drawHolds_20 rfl (by decide) (by decide) (fun hb => ?_) (fun hb => ?_)
        ·
          refine qv_sub (L' := [(3, _), (0, _), (1, _), (2, _)]) [1, 2, 3, 4] rfl ?_
          refine qv_iinc (L' := [(3, _), (0, _), (1, _), (2, _)]) F _ d_T_drawHolds_43 0 rfl (ii_1 _) (by decide) rfl ?_
          refine qv_goto F d_T_drawHolds_46 rfl ?_
          exact ih G (dn_next hG)
        ·
          exact absurd hb (by decide)
      · intro v G hv hG ih2
        refine qv_iload F d_T_drawHolds_17 0 rfl ?_
        refine qv_iconst F (nI 2) d_T_drawHolds_19 ic_2 ?_
        refine qv_icmpge F d_T_drawHolds_20 rfl (by omega) (by omega) (fun hb => ?_) (fun hb => ?_)
        ·
          omega
        ·
          refine qv_aload_n F d_T_drawHolds_23 3 rfl ?_
          refine qv_iload_n F d_T_drawHolds_24 1 rfl ?_
          refine qv_iload F d_T_drawHolds_25 0 rfl ?_
          refine qv_aload_n F d_T_drawHolds_27 2 rfl ?_
          refine qv_iload_n F d_T_drawHolds_28 1 rfl ?_
          refine qv_iload F d_T_drawHolds_29 0 rfl ?_
          refine i_T_136i F (c_T_heldIn l X (dg_ σ 1 o G) c v (by omega)) (by decide) (Nat.le_of_ble_eq_true rfl) d_T_drawHolds_31 ?_
          refine i_T_145v F (c_D_drawRows l X (dg_ σ 1 o G) 1 o c v (σ 22 (c * 2 + v)) (by decide) ho rfl hc hv (h22 _)) (by decide) (Nat.le_of_ble_eq_true rfl) d_T_drawHolds_34 ?_
          rw [dg_G]
          refine qv_iinc (L' := [(4, _), (3, _), (0, _), (1, _), (2, _)]) F _ d_T_drawHolds_37 0 rfl (ii_1 _) (by decide) rfl ?_
          refine qv_goto F d_T_drawHolds_40 rfl ?_
          exact ih2 _ (dn_row (by decide) ho hc hv hG)
end
section
/-! nodes: the answer, and what stays -/
def lq_ (w : Nat) : Nat := if w = 0 then 10 else 7
def nd_ (w o : Nat) (f : Nat → Nat) : Nat := lv2_ (fn_ w o f) (lq_ w) (lq_ w)
def sc_ (σ τ : sg) : Prop := ∀ b, b ≠ 4 → b ≠ 24 → b ≠ 25 → b ≠ 26 → b ≠ 27 → τ b = σ b
theorem sc_jt (σ : sg) (w o : Nat) (G Z O : Nat → Nat) (m : Nat) (G' : Nat → Nat) : sc_ σ (jt_ (dg_ σ w o G) Z O m G') := by
  intro b h4 h24 h25 h26 h27
  unfold jt_ dg_ us
  rw [ua_ne h4, ua_ne h27, ua_ne h26, ua_ne h25, ua_ne h25, ua_ne h4, ua_ne h24]
theorem nd_of (w o : Nat) (f old : Nat → Nat) (hq : 2 ^ lq_ w = rw_ w) : lv2_ (fun k => if k < rw_ w then fn_ w o f k else old k) (lq_ w) (lq_ w) = nd_ w o f := by
  refine lv2_cg (fun k hk => ?_)
  rw [hq] at hk
  rw [if_pos hk]
/-! the reference's program, its relation as a table, flags -/
def mo_ (σ : sg) : sg := fun a => σ (a + 24)
def rx_ (C : rl_) (a b : Nat) : Bool := a == b || C a b
def rch_ (C : rl_) (k : Nat) : Nat := (rx_ C (k / 4) (k % 4)).toNat
theorem rch_at (C : rl_) {a b : Nat} (hb : b < 4) : rch_ C (4 * a + b) = (rx_ C a b).toNat := by
  unfold rch_
  rw [show (4 * a + b) / 4 = a by omega, show (4 * a + b) % 4 = b by omega]
theorem rx_gp (C : rl_) (a b : Nat) : (rx_ C a b && rx_ C b a) = gp_ C a b := by
  unfold rx_ gp_
  by_cases e : a = b
  · subst e; simp
  · have e1 : (a == b) = false := by rw [← Bool.not_eq_true, beq_iff_eq]; exact e
    have e2 : (b == a) = false := by rw [← Bool.not_eq_true, beq_iff_eq]; exact fun z => e z.symm
    rw [e1, e2]; rfl
theorem rx_step (m : Nat) (C : rl_) (a b : Nat) : (rx_ C a b || (rx_ C a m && rx_ C m b)) = rx_ (w1_ m C) a b := by
  unfold rx_ w1_
  by_cases e1 : a = m
  · subst e1
    rw [beq_self_eq_true]
    cases (a == b) <;> cases C a b <;> cases C a a <;> rfl
  · have q1 : (a == m) = false := by rw [← Bool.not_eq_true, beq_iff_eq]; exact e1
    by_cases e2 : m = b
    · subst e2
      rw [beq_self_eq_true, q1]
      cases C a m <;> cases C m m <;> rfl
    · have q2 : (m == b) = false := by rw [← Bool.not_eq_true, beq_iff_eq]; exact e2
      rw [q1, q2]
      cases (a == b) <;> cases C a b <;> cases C a m <;> cases C m b <;> rfl
theorem rx_col (m : Nat) (C : rl_) (a : Nat) : rx_ (w1_ m C) a m = rx_ C a m := by
  unfold rx_ w1_
  cases (a == m) <;> cases C a m <;> cases C m m <;> rfl
theorem rx_row (m : Nat) (C : rl_) (b : Nat) : rx_ (w1_ m C) m b = rx_ C m b := by
  unfold rx_
  rw [w1_row]
theorem rx_c0 {t : sg} {i a b : Nat} : rx_ (c0_ t (i + 1)) a b = (rx_ (c0_ t i) a b || (t 11 i == a && t 12 i == b)) := by
  unfold rx_
  show (a == b || (c0_ t i a b || (t 11 i == a && t 12 i == b))) = _
  rw [Bool.or_assoc]
theorem rx_cg {C C' : rl_} (h : ∀ a b, b < 4 → C a b = C' a b) {a b : Nat} (hb : b < 4) : rx_ C a b = rx_ C' a b := by
  unfold rx_
  rw [h a b hb]
/-- a step whose flag only rises -/
def fq_ (f : rs_ → rs_) : Prop := ∀ p h g, f (p, h, g) = ((f (p, h, 0)).1, (f (p, h, 0)).2.1, if (f (p, h, 0)).2.2 = 0 then g else 1)
theorem fq_id : fq_ (fun s => s) := fun p h g => by
  show ((p, h, g) : rs_) = (p, h, if (0 : Nat) = 0 then g else 1)
  rw [if_pos rfl]
theorem fq_ad {w : Nat → Nat} {c v x : Nat} : fq_ (ad_ w c v x) := fun p h g => by
  by_cases e : p (c * 16 + v) ||| (x &&& w v) = p (c * 16 + v)
  · simp [ad_, e]
  · simp [ad_, e]
theorem fq_h1 {f x h : Nat} : fq_ (h1_ f x h) := fun p q g => by
  by_cases e : q (h * 2 + f) ||| x = q (h * 2 + f)
  · simp [h1_, e]
  · simp [h1_, e]
theorem fq_comp {f1 f2 : rs_ → rs_} (h1 : fq_ f1) (h2 : fq_ f2) : fq_ (fun s => f2 (f1 s)) := fun p h g => by
  have e1 := h1 p h g
  show f2 (f1 (p, h, g)) = ((f2 (f1 (p, h, 0))).1, (f2 (f1 (p, h, 0))).2.1, if (f2 (f1 (p, h, 0))).2.2 = 0 then g else 1)
  rw [e1]
  obtain ⟨p1, q1, g1⟩ := f1 (p, h, 0)
  show f2 (p1, q1, if g1 = 0 then g else 1) = ((f2 (p1, q1, g1)).1, (f2 (p1, q1, g1)).2.1, if (f2 (p1, q1, g1)).2.2 = 0 then g else 1)
  rw [h2 p1 q1 (if g1 = 0 then g else 1), h2 p1 q1 g1]
  obtain ⟨p2, q2, g2⟩ := f2 (p1, q1, 0)
  show ((p2, q2, if g2 = 0 then (if g1 = 0 then g else 1) else 1) : rs_) = (p2, q2, if (if g2 = 0 then g1 else 1) = 0 then g else 1)
  by_cases z2 : g2 = 0
  · rw [if_pos z2, if_pos z2]
  · rw [if_neg z2, if_neg z2, if_neg (by decide)]
theorem fq_it {f : Nat → rs_ → rs_} (h : ∀ k, fq_ (f k)) : ∀ n, fq_ (it_ f n)
  | 0 => fq_id
  | n + 1 => fq_comp (f1 := it_ f n) (f2 := f n) (fq_it h n) (h n)
theorem fq_hs {set f x n : Nat} : fq_ (hs_ set f x n) := fq_it (fun k p h g => by
  show (if set.testBit k = true then h1_ f x k (p, h, g) else (p, h, g)) = ((if set.testBit k = true then h1_ f x k (p, h, 0) else (p, h, 0)).1, (if set.testBit k = true then h1_ f x k (p, h, 0) else (p, h, 0)).2.1, if (if set.testBit k = true then h1_ f x k (p, h, 0) else (p, h, 0)).2.2 = 0 then g else 1)
  by_cases e : set.testBit k = true
  · rw [if_pos e, if_pos e]; exact fq_h1 p h g
  · rw [if_neg e, if_neg e]; exact fq_id p h g) n
theorem fq_sx {t : sg} {w : Nat → Nat} {k c : Nat} : fq_ (sx_ t w k c) := fun p h g => by
  unfold sx_
  by_cases e0 : t 7 k = 0
  · rw [if_pos e0, if_pos e0]; exact fq_ad p h g
  · rw [if_neg e0, if_neg e0]
    by_cases e1 : t 7 k = 1
    · rw [if_pos e1, if_pos e1]; exact fq_ad p h g
    · rw [if_neg e1, if_neg e1]
      by_cases e2 : t 7 k = 2
      · rw [if_pos e2, if_pos e2]; exact fq_hs p h g
      · rw [if_neg e2, if_neg e2]; exact fq_ad p h g
theorem fq_pa {t : sg} {w : Nat → Nat} {c d q : Nat} : fq_ (pa_ t w c d q) := fun p h g => by
  unfold pa_
  by_cases e : t 16 q = 0
  · rw [if_pos e, if_pos e]; exact fq_ad p h g
  · rw [if_neg e, if_neg e]; exact fq_ad p h g
theorem fq_pp {t : sg} {w : Nat → Nat} {k c d n : Nat} : fq_ (pp_ t w k c d n) := fq_it (fun _ => fq_pa) n
/-- the reference's relations in their cells -/
def mg_ (σ : sg) (g : Nat) : rs_ := (σ 46, σ 47, g)
def mr_ (σ : sg) (r : rs_) : sg := ua (ua σ 46 r.1) 47 r.2.1
theorem mr_mr (σ : sg) (r r' : rs_) : mr_ (mr_ σ r) r' = mr_ σ r' := by
  funext b
  unfold mr_
  by_cases h47 : b = 47
  · subst h47; rw [ua_eq, ua_eq]
  · rw [ua_ne h47, ua_ne h47]
    by_cases h46 : b = 46
    · subst h46; rw [ua_eq, ua_eq]
    · rw [ua_ne h46, ua_ne h46, ua_ne h47, ua_ne h46]
theorem mr_mg (σ : sg) (g : Nat) : mr_ σ (mg_ σ g) = σ := by
  funext b
  unfold mr_ mg_
  by_cases h47 : b = 47
  · subst h47; rw [ua_eq]
  · rw [ua_ne h47]
    by_cases h46 : b = 46
    · subst h46; rw [ua_eq]
    · rw [ua_ne h46]
theorem mr_46 (σ : sg) (i x : Nat) (h : Nat → Nat) (g : Nat) (hh : h = σ 47) : us σ 46 i x = mr_ σ (va_up (σ 46) i x, h, g) := by
  subst hh
  funext b
  unfold us mr_
  by_cases h47 : b = 47
  · subst h47; rw [ua_eq]; rfl
  · rw [ua_ne h47]
theorem mr_47 (σ : sg) (s : rs_) (i x g : Nat) : us (mr_ σ s) 47 i x = mr_ σ (s.1, va_up s.2.1 i x, g) := by
  funext b
  unfold us
  by_cases h47 : b = 47
  · subst h47; rw [ua_eq]; rfl
  · rw [ua_ne h47]
    unfold mr_
    rw [ua_ne h47, ua_ne h47]
end
section
abbrev b_M_brought : ByteArray := prog_7_method_16_code
def y_M_brought : MethodName := ⟨R_M, "brought", "(II)I"⟩
abbrev w_M_brought : List Cond := wz_ y_M_brought b_M_brought 5 (some .int)
abbrev b_M_group : ByteArray := prog_7_method_14_code
def y_M_group : MethodName := ⟨R_M, "group", "(II)Z"⟩
abbrev w_M_group : List Cond := wz_ y_M_group b_M_group 3 (some .boolean)
abbrev b_M_isOuter : ByteArray := prog_7_method_15_code
def y_M_isOuter : MethodName := ⟨R_M, "isOuter", "(I)Z"⟩
abbrev w_M_isOuter : List Cond := wz_ y_M_isOuter b_M_isOuter 2 (some .boolean)
abbrev b_M_pass : ByteArray := prog_7_method_12_code
def y_M_pass : MethodName := ⟨R_M, "pass", "(IIIZ)I"⟩
abbrev w_M_pass : List Cond := wz_ y_M_pass b_M_pass 8 (some .int)
abbrev b_P_nodes : ByteArray := prog_1_method_17_code
def y_P_nodes : MethodName := ⟨R_P, "nodes", "(I)I"⟩
abbrev w_P_nodes : List Cond := wz_ y_P_nodes b_P_nodes 2 (some .int)
end
section
theorem d_M_brought_0 : decode b_M_brought 0 = .ok (.iconst 0, 1) := by decide +kernel
theorem d_M_brought_1 : decode b_M_brought 1 = .ok (.istore_n 3, 1) := by decide +kernel
theorem d_M_brought_2 : decode b_M_brought 2 = .ok (.iconst 0, 1) := by decide +kernel
theorem d_M_brought_3 : decode b_M_brought 3 = .ok (.istore 4, 2) := by decide +kernel
theorem d_M_brought_5 : decode b_M_brought 5 = .ok (.iload 4, 2) := by decide +kernel
theorem d_M_brought_7 : decode b_M_brought 7 = .ok (.iload_n 2, 1) := by decide +kernel
theorem d_M_brought_8 : decode b_M_brought 8 = .ok (.if_icmp .ge 52, 3) := by decide +kernel
theorem d_M_brought_11 : decode b_M_brought 11 = .ok (.iload_n 3, 1) := by decide +kernel
theorem d_M_brought_12 : decode b_M_brought 12 = .ok (.aload_n 0, 1) := by decide +kernel
theorem d_M_brought_13 : decode b_M_brought 13 = .ok (.iload 4, 2) := by decide +kernel
theorem d_M_brought_15 : decode b_M_brought 15 = .ok (.invokevirtual 92, 3) := by decide +kernel
theorem d_M_brought_18 : decode b_M_brought 18 = .ok (.ifCond .eq 33, 3) := by decide +kernel
theorem d_M_brought_21 : decode b_M_brought 21 = .ok (.aload_n 0, 1) := by decide +kernel
theorem d_M_brought_22 : decode b_M_brought 22 = .ok (.aload_n 0, 1) := by decide +kernel
theorem d_M_brought_23 : decode b_M_brought 23 = .ok (.getfield 31, 3) := by decide +kernel
theorem d_M_brought_26 : decode b_M_brought 26 = .ok (.iload 4, 2) := by decide +kernel
theorem d_M_brought_28 : decode b_M_brought 28 = .ok (.iaload, 1) := by decide +kernel
theorem d_M_brought_29 : decode b_M_brought 29 = .ok (.iload_n 1, 1) := by decide +kernel
theorem d_M_brought_30 : decode b_M_brought 30 = .ok (.invokevirtual 89, 3) := by decide +kernel
theorem d_M_brought_33 : decode b_M_brought 33 = .ok (.ifCond .eq 18, 3) := by decide +kernel
theorem d_M_brought_36 : decode b_M_brought 36 = .ok (.aload_n 0, 1) := by decide +kernel
theorem d_M_brought_37 : decode b_M_brought 37 = .ok (.getfield 50, 3) := by decide +kernel
theorem d_M_brought_40 : decode b_M_brought 40 = .ok (.aload_n 0, 1) := by decide +kernel
theorem d_M_brought_41 : decode b_M_brought 41 = .ok (.getfield 28, 3) := by decide +kernel
theorem d_M_brought_44 : decode b_M_brought 44 = .ok (.iload 4, 2) := by decide +kernel
theorem d_M_brought_46 : decode b_M_brought 46 = .ok (.iaload, 1) := by decide +kernel
theorem d_M_brought_47 : decode b_M_brought 47 = .ok (.iaload, 1) := by decide +kernel
theorem d_M_brought_48 : decode b_M_brought 48 = .ok (.goto 4, 3) := by decide +kernel
theorem d_M_brought_51 : decode b_M_brought 51 = .ok (.iconst 0, 1) := by decide +kernel
theorem d_M_brought_52 : decode b_M_brought 52 = .ok (.iadd, 1) := by decide +kernel
theorem d_M_brought_53 : decode b_M_brought 53 = .ok (.istore_n 3, 1) := by decide +kernel
theorem d_M_brought_54 : decode b_M_brought 54 = .ok (.iinc 4 1, 3) := by decide +kernel
theorem d_M_brought_57 : decode b_M_brought 57 = .ok (.goto (-52), 3) := by decide +kernel
theorem d_M_brought_60 : decode b_M_brought 60 = .ok (.iload_n 3, 1) := by decide +kernel
theorem d_M_brought_61 : decode b_M_brought 61 = .ok (.ireturn, 1) := by decide +kernel
theorem d_M_group_0 : decode b_M_group 0 = .ok (.aload_n 0, 1) := by decide +kernel
theorem d_M_group_1 : decode b_M_group 1 = .ok (.getfield 47, 3) := by decide +kernel
theorem d_M_group_4 : decode b_M_group 4 = .ok (.iconst 4, 1) := by decide +kernel
theorem d_M_group_5 : decode b_M_group 5 = .ok (.iload_n 1, 1) := by decide +kernel
theorem d_M_group_6 : decode b_M_group 6 = .ok (.imul, 1) := by decide +kernel
theorem d_M_group_7 : decode b_M_group 7 = .ok (.iload_n 2, 1) := by decide +kernel
theorem d_M_group_8 : decode b_M_group 8 = .ok (.iadd, 1) := by decide +kernel
theorem d_M_group_9 : decode b_M_group 9 = .ok (.baload, 1) := by decide +kernel
theorem d_M_group_10 : decode b_M_group 10 = .ok (.ifCond .eq 20, 3) := by decide +kernel
theorem d_M_group_13 : decode b_M_group 13 = .ok (.aload_n 0, 1) := by decide +kernel
theorem d_M_group_14 : decode b_M_group 14 = .ok (.getfield 47, 3) := by decide +kernel
theorem d_M_group_17 : decode b_M_group 17 = .ok (.iconst 4, 1) := by decide +kernel
theorem d_M_group_18 : decode b_M_group 18 = .ok (.iload_n 2, 1) := by decide +kernel
theorem d_M_group_19 : decode b_M_group 19 = .ok (.imul, 1) := by decide +kernel
theorem d_M_group_20 : decode b_M_group 20 = .ok (.iload_n 1, 1) := by decide +kernel
theorem d_M_group_21 : decode b_M_group 21 = .ok (.iadd, 1) := by decide +kernel
theorem d_M_group_22 : decode b_M_group 22 = .ok (.baload, 1) := by decide +kernel
theorem d_M_group_23 : decode b_M_group 23 = .ok (.ifCond .eq 7, 3) := by decide +kernel
theorem d_M_group_26 : decode b_M_group 26 = .ok (.iconst 1, 1) := by decide +kernel
theorem d_M_group_27 : decode b_M_group 27 = .ok (.goto 4, 3) := by decide +kernel
theorem d_M_group_30 : decode b_M_group 30 = .ok (.iconst 0, 1) := by decide +kernel
theorem d_M_group_31 : decode b_M_group 31 = .ok (.ireturn, 1) := by decide +kernel
theorem d_M_isOuter_0 : decode b_M_isOuter 0 = .ok (.aload_n 0, 1) := by decide +kernel
theorem d_M_isOuter_1 : decode b_M_isOuter 1 = .ok (.aload_n 0, 1) := by decide +kernel
theorem d_M_isOuter_2 : decode b_M_isOuter 2 = .ok (.getfield 28, 3) := by decide +kernel
theorem d_M_isOuter_5 : decode b_M_isOuter 5 = .ok (.iload_n 1, 1) := by decide +kernel
theorem d_M_isOuter_6 : decode b_M_isOuter 6 = .ok (.iaload, 1) := by decide +kernel
theorem d_M_isOuter_7 : decode b_M_isOuter 7 = .ok (.aload_n 0, 1) := by decide +kernel
theorem d_M_isOuter_8 : decode b_M_isOuter 8 = .ok (.getfield 31, 3) := by decide +kernel
theorem d_M_isOuter_11 : decode b_M_isOuter 11 = .ok (.iload_n 1, 1) := by decide +kernel
theorem d_M_isOuter_12 : decode b_M_isOuter 12 = .ok (.iaload, 1) := by decide +kernel
theorem d_M_isOuter_13 : decode b_M_isOuter 13 = .ok (.invokevirtual 89, 3) := by decide +kernel
theorem d_M_isOuter_16 : decode b_M_isOuter 16 = .ok (.ifCond .ne 7, 3) := by decide +kernel
theorem d_M_isOuter_19 : decode b_M_isOuter 19 = .ok (.iconst 1, 1) := by decide +kernel
theorem d_M_isOuter_20 : decode b_M_isOuter 20 = .ok (.goto 4, 3) := by decide +kernel
theorem d_M_isOuter_23 : decode b_M_isOuter 23 = .ok (.iconst 0, 1) := by decide +kernel
theorem d_M_isOuter_24 : decode b_M_isOuter 24 = .ok (.ireturn, 1) := by decide +kernel
theorem d_M_pass_0 : decode b_M_pass 0 = .ok (.iload_n 1, 1) := by decide +kernel
theorem d_M_pass_1 : decode b_M_pass 1 = .ok (.aload_n 0, 1) := by decide +kernel
theorem d_M_pass_2 : decode b_M_pass 2 = .ok (.getfield 86, 3) := by decide +kernel
theorem d_M_pass_5 : decode b_M_pass 5 = .ok (.iconst 1, 1) := by decide +kernel
theorem d_M_pass_6 : decode b_M_pass 6 = .ok (.isub, 1) := by decide +kernel
theorem d_M_pass_7 : decode b_M_pass 7 = .ok (.invokestatic 71, 3) := by decide +kernel
theorem d_M_pass_10 : decode b_M_pass 10 = .ok (.ifCond .eq 21, 3) := by decide +kernel
theorem d_M_pass_13 : decode b_M_pass 13 = .ok (.iload_n 2, 1) := by decide +kernel
theorem d_M_pass_14 : decode b_M_pass 14 = .ok (.bipush 15, 2) := by decide +kernel
theorem d_M_pass_16 : decode b_M_pass 16 = .ok (.invokestatic 71, 3) := by decide +kernel
theorem d_M_pass_19 : decode b_M_pass 19 = .ok (.ifCond .eq 12, 3) := by decide +kernel
theorem d_M_pass_22 : decode b_M_pass 22 = .ok (.iload_n 3, 1) := by decide +kernel
theorem d_M_pass_23 : decode b_M_pass 23 = .ok (.bipush 15, 2) := by decide +kernel
theorem d_M_pass_25 : decode b_M_pass 25 = .ok (.invokestatic 71, 3) := by decide +kernel
theorem d_M_pass_28 : decode b_M_pass 28 = .ok (.ifCond .ne 5, 3) := by decide +kernel
theorem d_M_pass_31 : decode b_M_pass 31 = .ok (.iconst (-1), 1) := by decide +kernel
theorem d_M_pass_32 : decode b_M_pass 32 = .ok (.ireturn, 1) := by decide +kernel
theorem d_M_pass_33 : decode b_M_pass 33 = .ok (.iload 4, 2) := by decide +kernel
theorem d_M_pass_35 : decode b_M_pass 35 = .ok (.ifCond .eq 12, 3) := by decide +kernel
theorem d_M_pass_38 : decode b_M_pass 38 = .ok (.aload_n 0, 1) := by decide +kernel
theorem d_M_pass_39 : decode b_M_pass 39 = .ok (.getfield 31, 3) := by decide +kernel
theorem d_M_pass_42 : decode b_M_pass 42 = .ok (.iload_n 1, 1) := by decide +kernel
theorem d_M_pass_43 : decode b_M_pass 43 = .ok (.iaload, 1) := by decide +kernel
theorem d_M_pass_44 : decode b_M_pass 44 = .ok (.goto 9, 3) := by decide +kernel
theorem d_M_pass_47 : decode b_M_pass 47 = .ok (.aload_n 0, 1) := by decide +kernel
theorem d_M_pass_48 : decode b_M_pass 48 = .ok (.getfield 28, 3) := by decide +kernel
theorem d_M_pass_51 : decode b_M_pass 51 = .ok (.iload_n 1, 1) := by decide +kernel
theorem d_M_pass_52 : decode b_M_pass 52 = .ok (.iaload, 1) := by decide +kernel
theorem d_M_pass_53 : decode b_M_pass 53 = .ok (.istore 5, 2) := by decide +kernel
theorem d_M_pass_55 : decode b_M_pass 55 = .ok (.iload 4, 2) := by decide +kernel
theorem d_M_pass_57 : decode b_M_pass 57 = .ok (.ifCond .eq 12, 3) := by decide +kernel
theorem d_M_pass_60 : decode b_M_pass 60 = .ok (.aload_n 0, 1) := by decide +kernel
theorem d_M_pass_61 : decode b_M_pass 61 = .ok (.getfield 28, 3) := by decide +kernel
theorem d_M_pass_64 : decode b_M_pass 64 = .ok (.iload_n 1, 1) := by decide +kernel
theorem d_M_pass_65 : decode b_M_pass 65 = .ok (.iaload, 1) := by decide +kernel
theorem d_M_pass_66 : decode b_M_pass 66 = .ok (.goto 9, 3) := by decide +kernel
theorem d_M_pass_69 : decode b_M_pass 69 = .ok (.aload_n 0, 1) := by decide +kernel
theorem d_M_pass_70 : decode b_M_pass 70 = .ok (.getfield 31, 3) := by decide +kernel
theorem d_M_pass_73 : decode b_M_pass 73 = .ok (.iload_n 1, 1) := by decide +kernel
theorem d_M_pass_74 : decode b_M_pass 74 = .ok (.iaload, 1) := by decide +kernel
theorem d_M_pass_75 : decode b_M_pass 75 = .ok (.istore 6, 2) := by decide +kernel
theorem d_M_pass_77 : decode b_M_pass 77 = .ok (.iload_n 3, 1) := by decide +kernel
theorem d_M_pass_78 : decode b_M_pass 78 = .ok (.iconst 4, 1) := by decide +kernel
theorem d_M_pass_79 : decode b_M_pass 79 = .ok (.idiv, 1) := by decide +kernel
theorem d_M_pass_80 : decode b_M_pass 80 = .ok (.iload 5, 2) := by decide +kernel
theorem d_M_pass_82 : decode b_M_pass 82 = .ok (.if_icmp .ne 11, 3) := by decide +kernel
theorem d_M_pass_85 : decode b_M_pass 85 = .ok (.iload_n 2, 1) := by decide +kernel
theorem d_M_pass_86 : decode b_M_pass 86 = .ok (.iconst 4, 1) := by decide +kernel
theorem d_M_pass_87 : decode b_M_pass 87 = .ok (.idiv, 1) := by decide +kernel
theorem d_M_pass_88 : decode b_M_pass 88 = .ok (.iload 6, 2) := by decide +kernel
theorem d_M_pass_90 : decode b_M_pass 90 = .ok (.if_icmp .eq 5, 3) := by decide +kernel
theorem d_M_pass_93 : decode b_M_pass 93 = .ok (.iconst (-1), 1) := by decide +kernel
theorem d_M_pass_94 : decode b_M_pass 94 = .ok (.ireturn, 1) := by decide +kernel
theorem d_M_pass_95 : decode b_M_pass 95 = .ok (.aload_n 0, 1) := by decide +kernel
theorem d_M_pass_96 : decode b_M_pass 96 = .ok (.getfield 34, 3) := by decide +kernel
theorem d_M_pass_99 : decode b_M_pass 99 = .ok (.iload_n 1, 1) := by decide +kernel
theorem d_M_pass_100 : decode b_M_pass 100 = .ok (.iaload, 1) := by decide +kernel
theorem d_M_pass_101 : decode b_M_pass 101 = .ok (.iconst 4, 1) := by decide +kernel
theorem d_M_pass_102 : decode b_M_pass 102 = .ok (.if_icmp .ne 6, 3) := by decide +kernel
theorem d_M_pass_105 : decode b_M_pass 105 = .ok (.bipush (-2), 2) := by decide +kernel
theorem d_M_pass_107 : decode b_M_pass 107 = .ok (.ireturn, 1) := by decide +kernel
theorem d_M_pass_108 : decode b_M_pass 108 = .ok (.iconst 4, 1) := by decide +kernel
theorem d_M_pass_109 : decode b_M_pass 109 = .ok (.iload_n 1, 1) := by decide +kernel
theorem d_M_pass_110 : decode b_M_pass 110 = .ok (.imul, 1) := by decide +kernel
theorem d_M_pass_111 : decode b_M_pass 111 = .ok (.aload_n 0, 1) := by decide +kernel
theorem d_M_pass_112 : decode b_M_pass 112 = .ok (.getfield 34, 3) := by decide +kernel
theorem d_M_pass_115 : decode b_M_pass 115 = .ok (.iload_n 1, 1) := by decide +kernel
theorem d_M_pass_116 : decode b_M_pass 116 = .ok (.iaload, 1) := by decide +kernel
theorem d_M_pass_117 : decode b_M_pass 117 = .ok (.iadd, 1) := by decide +kernel
theorem d_M_pass_118 : decode b_M_pass 118 = .ok (.istore 7, 2) := by decide +kernel
theorem d_M_pass_120 : decode b_M_pass 120 = .ok (.aload_n 0, 1) := by decide +kernel
theorem d_M_pass_121 : decode b_M_pass 121 = .ok (.getfield 37, 3) := by decide +kernel
theorem d_M_pass_124 : decode b_M_pass 124 = .ok (.iload 7, 2) := by decide +kernel
theorem d_M_pass_126 : decode b_M_pass 126 = .ok (.iload_n 2, 1) := by decide +kernel
theorem d_M_pass_127 : decode b_M_pass 127 = .ok (.iastore, 1) := by decide +kernel
theorem d_M_pass_128 : decode b_M_pass 128 = .ok (.aload_n 0, 1) := by decide +kernel
theorem d_M_pass_129 : decode b_M_pass 129 = .ok (.getfield 40, 3) := by decide +kernel
theorem d_M_pass_132 : decode b_M_pass 132 = .ok (.iload 7, 2) := by decide +kernel
theorem d_M_pass_134 : decode b_M_pass 134 = .ok (.iload_n 3, 1) := by decide +kernel
theorem d_M_pass_135 : decode b_M_pass 135 = .ok (.iastore, 1) := by decide +kernel
theorem d_M_pass_136 : decode b_M_pass 136 = .ok (.aload_n 0, 1) := by decide +kernel
theorem d_M_pass_137 : decode b_M_pass 137 = .ok (.getfield 43, 3) := by decide +kernel
theorem d_M_pass_140 : decode b_M_pass 140 = .ok (.iload 7, 2) := by decide +kernel
theorem d_M_pass_142 : decode b_M_pass 142 = .ok (.iload 4, 2) := by decide +kernel
theorem d_M_pass_144 : decode b_M_pass 144 = .ok (.bastore, 1) := by decide +kernel
theorem d_M_pass_145 : decode b_M_pass 145 = .ok (.aload_n 0, 1) := by decide +kernel
theorem d_M_pass_146 : decode b_M_pass 146 = .ok (.getfield 34, 3) := by decide +kernel
theorem d_M_pass_149 : decode b_M_pass 149 = .ok (.iload_n 1, 1) := by decide +kernel
theorem d_M_pass_150 : decode b_M_pass 150 = .ok (.dup2, 1) := by decide +kernel
theorem d_M_pass_151 : decode b_M_pass 151 = .ok (.iaload, 1) := by decide +kernel
theorem d_M_pass_152 : decode b_M_pass 152 = .ok (.iconst 1, 1) := by decide +kernel
theorem d_M_pass_153 : decode b_M_pass 153 = .ok (.iadd, 1) := by decide +kernel
theorem d_M_pass_154 : decode b_M_pass 154 = .ok (.iastore, 1) := by decide +kernel
theorem d_M_pass_155 : decode b_M_pass 155 = .ok (.aload_n 0, 1) := by decide +kernel
theorem d_M_pass_156 : decode b_M_pass 156 = .ok (.getfield 34, 3) := by decide +kernel
theorem d_M_pass_159 : decode b_M_pass 159 = .ok (.iload_n 1, 1) := by decide +kernel
theorem d_M_pass_160 : decode b_M_pass 160 = .ok (.iaload, 1) := by decide +kernel
theorem d_M_pass_161 : decode b_M_pass 161 = .ok (.ireturn, 1) := by decide +kernel
theorem d_P_nodes_0 : decode b_P_nodes 0 = .ok (.iload_n 1, 1) := by decide +kernel
theorem d_P_nodes_1 : decode b_P_nodes 1 = .ok (.lookupswitch 73 #[(0, 27), (1, 50)], 27) := by decide +kernel
theorem d_P_nodes_28 : decode b_P_nodes 28 = .ok (.aload_n 0, 1) := by decide +kernel
theorem d_P_nodes_29 : decode b_P_nodes 29 = .ok (.getfield 26, 3) := by decide +kernel
theorem d_P_nodes_32 : decode b_P_nodes 32 = .ok (.aload_n 0, 1) := by decide +kernel
theorem d_P_nodes_33 : decode b_P_nodes 33 = .ok (.getfield 33, 3) := by decide +kernel
theorem d_P_nodes_36 : decode b_P_nodes 36 = .ok (.aload_n 0, 1) := by decide +kernel
theorem d_P_nodes_37 : decode b_P_nodes 37 = .ok (.getfield 37, 3) := by decide +kernel
theorem d_P_nodes_40 : decode b_P_nodes 40 = .ok (.invokevirtual 103, 3) := by decide +kernel
theorem d_P_nodes_43 : decode b_P_nodes 43 = .ok (.aload_n 0, 1) := by decide +kernel
theorem d_P_nodes_44 : decode b_P_nodes 44 = .ok (.getfield 33, 3) := by decide +kernel
theorem d_P_nodes_47 : decode b_P_nodes 47 = .ok (.invokevirtual 107, 3) := by decide +kernel
theorem d_P_nodes_50 : decode b_P_nodes 50 = .ok (.ireturn, 1) := by decide +kernel
theorem d_P_nodes_51 : decode b_P_nodes 51 = .ok (.aload_n 0, 1) := by decide +kernel
theorem d_P_nodes_52 : decode b_P_nodes 52 = .ok (.getfield 26, 3) := by decide +kernel
theorem d_P_nodes_55 : decode b_P_nodes 55 = .ok (.aload_n 0, 1) := by decide +kernel
theorem d_P_nodes_56 : decode b_P_nodes 56 = .ok (.getfield 33, 3) := by decide +kernel
theorem d_P_nodes_59 : decode b_P_nodes 59 = .ok (.aload_n 0, 1) := by decide +kernel
theorem d_P_nodes_60 : decode b_P_nodes 60 = .ok (.getfield 37, 3) := by decide +kernel
theorem d_P_nodes_63 : decode b_P_nodes 63 = .ok (.invokevirtual 110, 3) := by decide +kernel
theorem d_P_nodes_66 : decode b_P_nodes 66 = .ok (.aload_n 0, 1) := by decide +kernel
theorem d_P_nodes_67 : decode b_P_nodes 67 = .ok (.getfield 33, 3) := by decide +kernel
theorem d_P_nodes_70 : decode b_P_nodes 70 = .ok (.invokevirtual 107, 3) := by decide +kernel
theorem d_P_nodes_73 : decode b_P_nodes 73 = .ok (.ireturn, 1) := by decide +kernel
theorem d_P_nodes_74 : decode b_P_nodes 74 = .ok (.iconst (-1), 1) := by decide +kernel
theorem d_P_nodes_75 : decode b_P_nodes 75 = .ok (.ireturn, 1) := by decide +kernel
end
section
section RW
variable {own : String} {p : Program} {l : Launch} {e : Env} {R : Room} {s : State} {m : MethodId} {args : Array Value} {below : List Frame} {meth : Method} {c : Code} {Q : State → Prop} {X : wX} {nL : Nat} {L : List (Nat × Value)} {σ : sg} {pc : Nat} {st : List Value} {cc : ByteArray}
theorem ld_37 (F : fx_ p s m args c cc nL own X) {i : Nat} (hi : i < 8) (hd : decode cc pc = .ok (.iaload, 1)) (k : vv_ p l e R s m args below meth c Q X nL L σ (pc + 1) (.int (nI (σ 37 i)) :: st)) : vv_ p l e R s m args below meth c Q X nL L σ pc (.int (nI i) :: .ref (adr X 37) :: st) := qv_iald F 37 rfl hi (by decide) hd k
theorem sv_37 (F : fx_ p s m args c cc nL own X) {i x : Nat} (hi : i < 8) (hd : decode cc pc = .ok (.iastore, 1)) (k : vv_ p l e R s m args below meth c Q X nL L (us σ 37 i x) (pc + 1) st) : vv_ p l e R s m args below meth c Q X nL L σ pc (.int (nI x) :: .int (nI i) :: .ref (adr X 37) :: st) := qv_iast F 37 rfl hi (by decide) hd k
theorem ld_38 (F : fx_ p s m args c cc nL own X) {i : Nat} (hi : i < 32) (hd : decode cc pc = .ok (.iaload, 1)) (k : vv_ p l e R s m args below meth c Q X nL L σ (pc + 1) (.int (nI (σ 38 i)) :: st)) : vv_ p l e R s m args below meth c Q X nL L σ pc (.int (nI i) :: .ref (adr X 38) :: st) := qv_iald F 38 rfl hi (by decide) hd k
theorem sv_38 (F : fx_ p s m args c cc nL own X) {i x : Nat} (hi : i < 32) (hd : decode cc pc = .ok (.iastore, 1)) (k : vv_ p l e R s m args below meth c Q X nL L (us σ 38 i x) (pc + 1) st) : vv_ p l e R s m args below meth c Q X nL L σ pc (.int (nI x) :: .int (nI i) :: .ref (adr X 38) :: st) := qv_iast F 38 rfl hi (by decide) hd k
theorem ld_39 (F : fx_ p s m args c cc nL own X) {i : Nat} (hi : i < 32) (hd : decode cc pc = .ok (.iaload, 1)) (k : vv_ p l e R s m args below meth c Q X nL L σ (pc + 1) (.int (nI (σ 39 i)) :: st)) : vv_ p l e R s m args below meth c Q X nL L σ pc (.int (nI i) :: .ref (adr X 39) :: st) := qv_iald F 39 rfl hi (by decide) hd k
theorem sv_39 (F : fx_ p s m args c cc nL own X) {i x : Nat} (hi : i < 32) (hd : decode cc pc = .ok (.iastore, 1)) (k : vv_ p l e R s m args below meth c Q X nL L (us σ 39 i x) (pc + 1) st) : vv_ p l e R s m args below meth c Q X nL L σ pc (.int (nI x) :: .int (nI i) :: .ref (adr X 39) :: st) := qv_iast F 39 rfl hi (by decide) hd k
theorem ld_40 (F : fx_ p s m args c cc nL own X) {i : Nat} (hi : i < 32) (hd : decode cc pc = .ok (.baload, 1)) (k : vv_ p l e R s m args below meth c Q X nL L σ (pc + 1) (.int (nI (σ 40 i)) :: st)) : vv_ p l e R s m args below meth c Q X nL L σ pc (.int (nI i) :: .ref (adr X 40) :: st) := qv_zald F 40 rfl hi (by decide) hd k
theorem sv_40 (F : fx_ p s m args c cc nL own X) {i x : Nat} (hi : i < 32) (hx : x = 0 ∨ x = 1) (hd : decode cc pc = .ok (.bastore, 1)) (k : vv_ p l e R s m args below meth c Q X nL L (us σ 40 i x) (pc + 1) st) : vv_ p l e R s m args below meth c Q X nL L σ pc (.int (nI x) :: .int (nI i) :: .ref (adr X 40) :: st) := qv_zast F 40 rfl hi (by decide) hx hd k
theorem ld_41 (F : fx_ p s m args c cc nL own X) {i : Nat} (hi : i < 16) (hd : decode cc pc = .ok (.baload, 1)) (k : vv_ p l e R s m args below meth c Q X nL L σ (pc + 1) (.int (nI (σ 41 i)) :: st)) : vv_ p l e R s m args below meth c Q X nL L σ pc (.int (nI i) :: .ref (adr X 41) :: st) := qv_zald F 41 rfl hi (by decide) hd k
theorem sv_41 (F : fx_ p s m args c cc nL own X) {i x : Nat} (hi : i < 16) (hx : x = 0 ∨ x = 1) (hd : decode cc pc = .ok (.bastore, 1)) (k : vv_ p l e R s m args below meth c Q X nL L (us σ 41 i x) (pc + 1) st) : vv_ p l e R s m args below meth c Q X nL L σ pc (.int (nI x) :: .int (nI i) :: .ref (adr X 41) :: st) := qv_zast F 41 rfl hi (by decide) hx hd k
theorem ld_42 (F : fx_ p s m args c cc nL own X) {i : Nat} (hi : i < 4) (hd : decode cc pc = .ok (.iaload, 1)) (k : vv_ p l e R s m args below meth c Q X nL L σ (pc + 1) (.int (nI (σ 42 i)) :: st)) : vv_ p l e R s m args below meth c Q X nL L σ pc (.int (nI i) :: .ref (adr X 42) :: st) := qv_iald F 42 rfl hi (by decide) hd k
theorem sv_42 (F : fx_ p s m args c cc nL own X) {i x : Nat} (hi : i < 4) (hd : decode cc pc = .ok (.iastore, 1)) (k : vv_ p l e R s m args below meth c Q X nL L (us σ 42 i x) (pc + 1) st) : vv_ p l e R s m args below meth c Q X nL L σ pc (.int (nI x) :: .int (nI i) :: .ref (adr X 42) :: st) := qv_iast F 42 rfl hi (by decide) hd k
theorem g_M_34 (F : fx_ p s m args c cc nL R_M X) (hd : decode cc pc = .ok (.getfield 34, 3)) (k : vv_ p l e R s m args below meth c Q X nL L σ (pc + 3) (.ref (adr X 37) :: st)) : vv_ p l e R s m args below meth c Q X nL L σ pc (.ref (adr X 28) :: st) := qv_getr F (ref := R_M) (C := R_M) (T := F_M) (N := 24) in_M 28 rfl rfl 10 (by decide) (by decide +kernel) rfl rfl hd k
theorem g_M_37 (F : fx_ p s m args c cc nL R_M X) (hd : decode cc pc = .ok (.getfield 37, 3)) (k : vv_ p l e R s m args below meth c Q X nL L σ (pc + 3) (.ref (adr X 38) :: st)) : vv_ p l e R s m args below meth c Q X nL L σ pc (.ref (adr X 28) :: st) := qv_getr F (ref := R_M) (C := R_M) (T := F_M) (N := 24) in_M 28 rfl rfl 11 (by decide) (by decide +kernel) rfl rfl hd k
theorem g_M_40 (F : fx_ p s m args c cc nL R_M X) (hd : decode cc pc = .ok (.getfield 40, 3)) (k : vv_ p l e R s m args below meth c Q X nL L σ (pc + 3) (.ref (adr X 39) :: st)) : vv_ p l e R s m args below meth c Q X nL L σ pc (.ref (adr X 28) :: st) := qv_getr F (ref := R_M) (C := R_M) (T := F_M) (N := 24) in_M 28 rfl rfl 12 (by decide) (by decide +kernel) rfl rfl hd k
theorem g_M_43 (F : fx_ p s m args c cc nL R_M X) (hd : decode cc pc = .ok (.getfield 43, 3)) (k : vv_ p l e R s m args below meth c Q X nL L σ (pc + 3) (.ref (adr X 40) :: st)) : vv_ p l e R s m args below meth c Q X nL L σ pc (.ref (adr X 28) :: st) := qv_getr F (ref := R_M) (C := R_M) (T := F_M) (N := 24) in_M 28 rfl rfl 13 (by decide) (by decide +kernel) rfl rfl hd k
theorem g_M_47 (F : fx_ p s m args c cc nL R_M X) (hd : decode cc pc = .ok (.getfield 47, 3)) (k : vv_ p l e R s m args below meth c Q X nL L σ (pc + 3) (.ref (adr X 41) :: st)) : vv_ p l e R s m args below meth c Q X nL L σ pc (.ref (adr X 28) :: st) := qv_getr F (ref := R_M) (C := R_M) (T := F_M) (N := 24) in_M 28 rfl rfl 14 (by decide) (by decide +kernel) rfl rfl hd k
theorem g_M_50 (F : fx_ p s m args c cc nL R_M X) (hd : decode cc pc = .ok (.getfield 50, 3)) (k : vv_ p l e R s m args below meth c Q X nL L σ (pc + 3) (.ref (adr X 42) :: st)) : vv_ p l e R s m args below meth c Q X nL L σ pc (.ref (adr X 28) :: st) := qv_getr F (ref := R_M) (C := R_M) (T := F_M) (N := 24) in_M 28 rfl rfl 15 (by decide) (by decide +kernel) rfl rfl hd k
theorem g_P_33 (F : fx_ p s m args c cc nL R_P X) (hd : decode cc pc = .ok (.getfield 33, 3)) (k : vv_ p l e R s m args below meth c Q X nL L σ (pc + 3) (.ref (adr X 4) :: st)) : vv_ p l e R s m args below meth c Q X nL L σ pc (.ref (adr X 0) :: st) := qv_getr F (ref := R_P) (C := R_P) (T := F_P) (N := 5) in_P 0 rfl rfl 3 (by decide) (by decide +kernel) rfl rfl hd k
theorem i_M_89i (F : fx_ p s m args c cc nL R_M X) {v0 v1 : Value} {rest : List Value} {d : Nat} {z : Int32} {τ : sg} (hM : mt_ l X y_M_group w_M_group d [.ref (adr X 28), v0, v1] σ (ei_ z τ)) (hR : d + 1 ≤ R.frames ∧ 8 + (3 + 11) + 30 * d ≤ R.locals) (hw : (rest.map fun v => v.category).sum ≤ 8) (hd : decode cc pc = .ok (.invokevirtual 89, 3)) (k : vv_ p l e R s m args below meth c Q X nL L τ (pc + 3) (.int z :: rest)) : vv_ p l e R s m args below meth c Q X nL L σ pc (v1 :: v0 :: .ref (adr X 28) :: rest) :=
  qv_callV F (maxL := 3) (ret := (some .boolean)) (n := 2) (as := [v0, v1]) (rest := rest) 28 rfl rfl (by decide +kernel) (by decide +kernel) (by decide +kernel) (by decide +kernel) (by decide +kernel) (by decide +kernel) hM rfl hR hw hd (fun r τ' hp => by obtain ⟨rfl, rfl⟩ := hp; exact k)
theorem i_M_92i (F : fx_ p s m args c cc nL R_M X) {v0 : Value} {rest : List Value} {d : Nat} {z : Int32} {τ : sg} (hM : mt_ l X y_M_isOuter w_M_isOuter d [.ref (adr X 28), v0] σ (ei_ z τ)) (hR : d + 1 ≤ R.frames ∧ 8 + (2 + 11) + 30 * d ≤ R.locals) (hw : (rest.map fun v => v.category).sum ≤ 8) (hd : decode cc pc = .ok (.invokevirtual 92, 3)) (k : vv_ p l e R s m args below meth c Q X nL L τ (pc + 3) (.int z :: rest)) : vv_ p l e R s m args below meth c Q X nL L σ pc (v0 :: .ref (adr X 28) :: rest) :=
  qv_callV F (maxL := 2) (ret := (some .boolean)) (n := 1) (as := [v0]) (rest := rest) 28 rfl rfl (by decide +kernel) (by decide +kernel) (by decide +kernel) (by decide +kernel) (by decide +kernel) (by decide +kernel) hM rfl hR hw hd (fun r τ' hp => by obtain ⟨rfl, rfl⟩ := hp; exact k)
theorem i_P_103v (F : fx_ p s m args c cc nL R_P X) {v0 v1 : Value} {rest : List Value} {d : Nat} {τ : sg} (hM : mt_ l X y_T_drawPoints w_T_drawPoints d [.ref (adr X 3), v0, v1] σ (ev_ τ)) (hR : d + 1 ≤ R.frames ∧ 8 + (5 + 11) + 30 * d ≤ R.locals) (hw : (rest.map fun v => v.category).sum ≤ 8) (hd : decode cc pc = .ok (.invokevirtual 103, 3)) (k : vv_ p l e R s m args below meth c Q X nL L τ (pc + 3) rest) : vv_ p l e R s m args below meth c Q X nL L σ pc (v1 :: v0 :: .ref (adr X 3) :: rest) :=
  qv_callV F (maxL := 5) (ret := none) (n := 2) (as := [v0, v1]) (rest := rest) 3 rfl rfl (by decide +kernel) (by decide +kernel) (by decide +kernel) (by decide +kernel) (by decide +kernel) (by decide +kernel) hM rfl hR hw hd (fun r τ' hp => by obtain ⟨rfl, rfl⟩ := hp; exact k)
theorem i_P_107p (F : fx_ p s m args c cc nL R_P X) {rest : List Value} {d : Nat} {P : Option Value → sg → Prop} (hM : mt_ l X y_D_countNodes w_D_countNodes d [.ref (adr X 4)] σ (P)) (hR : d + 1 ≤ R.frames ∧ 8 + (3 + 11) + 30 * d ≤ R.locals) (hw : (rest.map fun v => v.category).sum ≤ 8) (hd : decode cc pc = .ok (.invokevirtual 107, 3)) (k : ∀ (r : Option Value) (τ : sg), P r τ → vv_ p l e R s m args below meth c Q X nL L τ (pc + 3) (r.toList ++ rest)) : vv_ p l e R s m args below meth c Q X nL L σ pc (.ref (adr X 4) :: rest) :=
  qv_callV F (maxL := 3) (ret := (some .int)) (n := 0) (as := []) (rest := rest) 4 rfl rfl (by decide +kernel) (by decide +kernel) (by decide +kernel) (by decide +kernel) (by decide +kernel) (by decide +kernel) hM rfl hR hw hd k
theorem i_P_110v (F : fx_ p s m args c cc nL R_P X) {v0 v1 : Value} {rest : List Value} {d : Nat} {τ : sg} (hM : mt_ l X y_T_drawHolds w_T_drawHolds d [.ref (adr X 3), v0, v1] σ (ev_ τ)) (hR : d + 1 ≤ R.frames ∧ 8 + (5 + 11) + 30 * d ≤ R.locals) (hw : (rest.map fun v => v.category).sum ≤ 8) (hd : decode cc pc = .ok (.invokevirtual 110, 3)) (k : vv_ p l e R s m args below meth c Q X nL L τ (pc + 3) rest) : vv_ p l e R s m args below meth c Q X nL L σ pc (v1 :: v0 :: .ref (adr X 3) :: rest) :=
  qv_callV F (maxL := 5) (ret := none) (n := 2) (as := [v0, v1]) (rest := rest) 3 rfl rfl (by decide +kernel) (by decide +kernel) (by decide +kernel) (by decide +kernel) (by decide +kernel) (by decide +kernel) hM rfl hR hw hd (fun r τ' hp => by obtain ⟨rfl, rfl⟩ := hp; exact k)
end RW
end
section
/-! nodes of the class -/
set_option maxRecDepth 100000 in
set_option maxHeartbeats 4000000 in
theorem c_P_nodes (l : Launch) (X : wX) (σ : sg) (x : Int32) (ho : σ 0 4 < 6) (h21 : ∀ k, σ 21 k < 256) (h22 : ∀ k, σ 22 k < 256) : mt_ l X y_P_nodes w_P_nodes 4 [.ref (adr X 0), .int x] σ (fun r τ => (wi_ x 2 = false ∧ r = some (.int (-1)) ∧ τ = σ) ∨ (∃ w, w < 2 ∧ x = nI w ∧ r = some (.int (nI (nd_ w (σ 0 4) (if w = 0 then σ 21 else σ 22)))) ∧ sc_ σ τ)) := by
  refine mt_of (own := R_P) rfl pl_P (Nat.le_of_ble_eq_true rfl) ?_
  intro zp ze zs zm za zb zt zc F hr hlk
  refine qv_sub (L' := [(0, _), (1, _)]) [0, 1] rfl ?_
  refine qv_iload_n F d_P_nodes_0 1 rfl ?_
  cases hx : wi_ x 2 with
  | false =>
    have n0 : ¬ x = nI 0 := fun z => by rw [z] at hx; exact absurd hx (by decide)
    have n1 : ¬ x = nI 1 := fun z => by rw [z] at hx; exact absurd hx (by decide)
    refine qv_lsw F d_P_nodes_1 (by decide) (off := 73) (tgt := 74) (by show Op.lookupswitch.offset [(0, 27), (1, 50)] 73 x.toInt = 73; rw [lv_osw n0 (by decide), lv_osw n1 (by decide)]; rfl) rfl ?_
    refine qv_iconst F (-1) d_P_nodes_74 ic_m1 ?_
    exact qv_iret F hr hlk d_P_nodes_75 (Or.inl ⟨rfl, rfl, rfl⟩)
  | true =>
    obtain ⟨j, hj, rfl⟩ := wi_t (by decide) hx
    rcases (by omega : j = 0 ∨ j = 1) with rfl | rfl
    · refine qv_lsw F d_P_nodes_1 (by decide) (off := 27) (tgt := 28) (by decide) rfl ?_
      refine qv_aload_n F d_P_nodes_28 0 rfl ?_
      refine g_P_26 F d_P_nodes_29 ?_
      refine qv_aload_n F d_P_nodes_32 0 rfl ?_
      refine g_P_33 F d_P_nodes_33 ?_
      refine qv_aload_n F d_P_nodes_36 0 rfl ?_
      refine g_P_37 F d_P_nodes_37 ?_
      refine i_P_103v F (c_T_drawPoints l X σ (σ 0 4) ho h21) (by decide) (Nat.le_of_ble_eq_true rfl) d_P_nodes_40 ?_
      refine qv_aload_n F d_P_nodes_43 0 rfl ?_
      refine g_P_33 F d_P_nodes_44 ?_
      refine i_P_107p F (c_D_countNodes l X (dg_ σ 0 (σ 0 4) (fun k => if k < rw_ 0 then fn_ 0 (σ 0 4) (σ 21) k else σ 25 k)) 10 (by decide) rfl (fun k hk => by show (if k < rw_ 0 then fn_ 0 (σ 0 4) (σ 21) k else σ 25 k) < 2; rw [if_pos (show k < rw_ 0 from hk)]; exact fn_2 _ _ _ _)) (by decide) (Nat.le_of_ble_eq_true rfl) d_P_nodes_47 (fun r τ hp => ?_)
      obtain ⟨Z, O, G, m, rfl, rfl⟩ := hp
      refine qv_stk (st' := .int (nI (nd_ 0 (σ 0 4) (σ 21))) :: []) (by rw [← nd_of 0 (σ 0 4) (σ 21) (σ 25) rfl]; rfl) ?_
      exact qv_iret F hr hlk d_P_nodes_50 (Or.inr ⟨0, by decide, rfl, rfl, sc_jt _ _ _ _ _ _ _ _⟩)
    · refine qv_lsw F d_P_nodes_1 (by decide) (off := 50) (tgt := 51) (by decide) rfl ?_
      refine qv_aload_n F d_P_nodes_51 0 rfl ?_
      refine g_P_26 F d_P_nodes_52 ?_
      refine qv_aload_n F d_P_nodes_55 0 rfl ?_
      refine g_P_33 F d_P_nodes_56 ?_
      refine qv_aload_n F d_P_nodes_59 0 rfl ?_
      refine g_P_37 F d_P_nodes_60 ?_
      refine i_P_110v F (c_T_drawHolds l X σ (σ 0 4) ho h22) (by decide) (Nat.le_of_ble_eq_true rfl) d_P_nodes_63 ?_
      refine qv_aload_n F d_P_nodes_66 0 rfl ?_
      refine g_P_33 F d_P_nodes_67 ?_
      refine i_P_107p F (c_D_countNodes l X (dg_ σ 1 (σ 0 4) (fun k => if k < rw_ 1 then fn_ 1 (σ 0 4) (σ 22) k else σ 25 k)) 7 (by decide) rfl (fun k hk => by show (if k < rw_ 1 then fn_ 1 (σ 0 4) (σ 22) k else σ 25 k) < 2; rw [if_pos (show k < rw_ 1 from hk)]; exact fn_2 _ _ _ _)) (by decide) (Nat.le_of_ble_eq_true rfl) d_P_nodes_70 (fun r τ hp => ?_)
      obtain ⟨Z, O, G, m, rfl, rfl⟩ := hp
      refine qv_stk (st' := .int (nI (nd_ 1 (σ 0 4) (σ 22))) :: []) (by rw [← nd_of 1 (σ 0 4) (σ 22) (σ 25) rfl]; rfl) ?_
      exact qv_iret F hr hlk d_P_nodes_73 (Or.inr ⟨1, by decide, rfl, rfl, sc_jt _ _ _ _ _ _ _ _⟩)
end
section
/-! the reference: pass, groups, counts -/
def apM_ (σ : sg) (k v w b : Nat) : sg := us (us (us (us σ 38 (4 * k + σ 37 k) v) 39 (4 * k + σ 37 k) w) 40 (4 * k + σ 37 k) b) 37 k (σ 37 k + 1)
set_option maxRecDepth 100000 in
set_option maxHeartbeats 4000000 in
theorem c_M_pass (l : Launch) (X : wX) (σ : sg) (x y z : Int32) (b : Bool) (hs : σ 28 7 ≤ 8) (h11 : ∀ k, σ 35 k < 4) (h12 : ∀ k, σ 36 k < 4) (h13 : ∀ k, σ 37 k ≤ 4) : mt_ l X y_M_pass w_M_pass 1 [.ref (adr X 28), .int x, .int y, .int z, .int (nI b.toNat)] σ (ei_ (pn_ (mp_ (mo_ σ) (σ 28 7) x y z b) (σ 37 (tn_ x))) (if mp_ (mo_ σ) (σ 28 7) x y z b = true then (if σ 37 (tn_ x) < 4 then apM_ σ (tn_ x) (tn_ y) (tn_ z) b.toNat else σ) else σ)) := by
  refine mt_of (own := R_M) rfl pl_M (Nat.le_of_ble_eq_true rfl) ?_
  intro zp ze zs zm za zb zt zc F hr hlk
  refine qv_sub (L' := [(0, _), (1, _), (2, _), (3, _), (4, _)]) [0, 1, 2, 3, 4] rfl ?_
  refine qv_iload_n F d_M_pass_0 1 rfl ?_
  refine qv_aload_n F d_M_pass_1 0 rfl ?_
  refine g_M_86 F d_M_pass_2 ?_
  refine qv_iconst F (nI 1) d_M_pass_5 ic_1 ?_
  refine qv_isubI F d_M_pass_6 ?_
  refine i_M_71i F (c_M_in l X σ x (nI (σ 28 7) - nI 1) (σ 28 7) (by rw [pk_sub_toInt (by omega) (by decide)]; rfl)) (by decide) (Nat.le_of_ble_eq_true rfl) d_M_pass_7 ?_
  refine qv_ifeqB F d_M_pass_10 rfl (fun hb => ?_) (fun hb => ?_)
  ·
    have hm : mp_ (mo_ σ) (σ 28 7) x y z b = false := by unfold mp_; rw [hb]; rfl
    rw [hm]
    refine qv_iconst F (-1) d_M_pass_31 ic_m1 ?_
    exact qv_iret F hr hlk d_M_pass_32 (ei_of rfl rfl)
  ·
    have hx := hb
    refine qv_iload_n F d_M_pass_13 2 rfl ?_
    refine qv_bipush F (nI 15) d_M_pass_14 bic_15 ?_
    refine i_M_71i F (c_M_in l X σ y (nI 15) 16 (by decide)) (by decide) (Nat.le_of_ble_eq_true rfl) d_M_pass_16 ?_
    refine qv_ifeqB F d_M_pass_19 rfl (fun hb => ?_) (fun hb => ?_)
    ·
      have hm : mp_ (mo_ σ) (σ 28 7) x y z b = false := by unfold mp_ of_; rw [hb]; cases b <;> cases wi_ x (σ 28 7) <;> cases (wi_ z 16) <;> simp
      rw [hm]
      refine qv_iconst F (-1) d_M_pass_31 ic_m1 ?_
      exact qv_iret F hr hlk d_M_pass_32 (ei_of rfl rfl)
    ·
      have hy := hb
      refine qv_iload_n F d_M_pass_22 3 rfl ?_
      refine qv_bipush F (nI 15) d_M_pass_23 bic_15 ?_
      refine i_M_71i F (c_M_in l X σ z (nI 15) 16 (by decide)) (by decide) (Nat.le_of_ble_eq_true rfl) d_M_pass_25 ?_
      refine qv_ifneB F d_M_pass_28 rfl (fun hb => ?_) (fun hb => ?_)
      ·
        have hz := hb
        obtain ⟨j, hj, rfl⟩ := wi_t (by omega) hx
        obtain ⟨k, hk, rfl⟩ := wi_t (by decide) hy
        obtain ⟨i, hi, rfl⟩ := wi_t (by decide) hz
        have q11 := h11 j
        have q12 := h12 j
        have q13 := h13 j
        have ej : tn_ (nI j) = j := tn_nI (by omega)
        have ek : tn_ (nI k) = k := tn_nI (by omega)
        have ei : tn_ (nI i) = i := tn_nI (by omega)
        cases b with
        | false =>
          have em : mp_ (mo_ σ) (σ 28 7) (nI j) (nI k) (nI i) false = (decide (k / 4 = σ 36 j) && decide (i / 4 = σ 35 j)) := by
            unfold mp_ of_
            rw [hx, hy, hz, ej, ek, ei]
            rfl
          rw [em, ej, ek, ei]
          refine qv_iload F d_M_pass_33 4 rfl ?_
          refine qv_ifeqB (b := false) F d_M_pass_35 (tgt := 47) rfl (fun _ => ?_) (fun q => by cases q)
          refine qv_aload_n F d_M_pass_47 0 rfl ?_
          refine g_M_28 F d_M_pass_48 ?_
          refine qv_iload_n F d_M_pass_51 1 rfl ?_
          refine ld_35 F (by omega) d_M_pass_52 ?_
          refine qv_istore (L' := [(5, _), (0, _), (1, _), (2, _), (3, _), (4, _)]) F d_M_pass_53 (by decide) rfl ?_
          refine qv_iload F d_M_pass_55 5 rfl ?_
          refine qv_ifeqB (b := false) F d_M_pass_57 (tgt := 69) rfl (fun _ => ?_) (fun q => by cases q)
          refine qv_aload_n F d_M_pass_69 1 rfl ?_
          refine g_M_31 F d_M_pass_70 ?_
          refine qv_iload_n F d_M_pass_73 2 rfl ?_
          refine ld_36 F (by omega) d_M_pass_74 ?_
          refine qv_istore (L' := [(6, _), (5, _), (0, _), (1, _), (2, _), (3, _), (4, _)]) F d_M_pass_75 (by decide) rfl ?_
          refine qv_iload_n F d_M_pass_77 5 rfl ?_
          refine qv_iconst F (nI 4) d_M_pass_78 ic_4 ?_
          refine qv_idiv F d_M_pass_79 (by omega) (by decide) (by decide) ?_
          refine qv_iload F d_M_pass_80 1 rfl ?_
          refine qv_icmpne F d_M_pass_82 rfl (by omega) (by omega) (fun hb => ?_) (fun hb => ?_)
          ·
            rw [decide_eq_false hb, Bool.and_false]
            refine qv_iconst F (-1) d_M_pass_93 ic_m1 ?_
            exact qv_iret F hr hlk d_M_pass_94 (ei_of rfl rfl)
          ·
            have h1 := hb
            refine qv_iload_n F d_M_pass_85 4 rfl ?_
            refine qv_iconst F (nI 4) d_M_pass_86 ic_4 ?_
            refine qv_idiv F d_M_pass_87 (by omega) (by decide) (by decide) ?_
            refine qv_iload F d_M_pass_88 0 rfl ?_
            refine qv_icmpeq F d_M_pass_90 rfl (by omega) (by omega) (fun hb => ?_) (fun hb => ?_)
            ·
              rw [decide_eq_true hb, decide_eq_true h1]
              refine qv_aload_n F d_M_pass_95 2 rfl ?_
              refine g_M_34 F d_M_pass_96 ?_
              refine qv_iload_n F d_M_pass_99 3 rfl ?_
              refine ld_37 F (by omega) d_M_pass_100 ?_
              refine qv_iconst F (nI 4) d_M_pass_101 ic_4 ?_
              refine qv_icmpne F d_M_pass_102 rfl (by omega) (by omega) (fun hb => ?_) (fun hb => ?_)
              ·
                have hlt : σ 37 j < 4 := by omega
                unfold pn_
                rw [if_pos (show (true && true) = true from rfl), if_pos (show (true && true) = true from rfl), if_pos hlt, if_pos hlt]
                refine qv_iconst F (nI 4) d_M_pass_108 ic_4 ?_
                refine qv_iload_n F d_M_pass_109 3 rfl ?_
                refine qv_imul F d_M_pass_110 ?_
                refine qv_aload_n F d_M_pass_111 2 rfl ?_
                refine g_M_34 F d_M_pass_112 ?_
                refine qv_iload_n F d_M_pass_115 3 rfl ?_
                refine ld_37 F (by omega) d_M_pass_116 ?_
                refine qv_iadd F d_M_pass_117 ?_
                refine qv_istore (L' := [(7, _), (6, _), (5, _), (0, _), (1, _), (2, _), (3, _), (4, _)]) F d_M_pass_118 (by decide) rfl ?_
                refine qv_aload_n F d_M_pass_120 3 rfl ?_
                refine g_M_37 F d_M_pass_121 ?_
                refine qv_iload F d_M_pass_124 0 rfl ?_
                refine qv_iload_n F d_M_pass_126 5 rfl ?_
                refine sv_38 F (by omega) d_M_pass_127 ?_
                refine qv_aload_n F d_M_pass_128 3 rfl ?_
                refine g_M_40 F d_M_pass_129 ?_
                refine qv_iload F d_M_pass_132 0 rfl ?_
                refine qv_iload_n F d_M_pass_134 6 rfl ?_
                refine sv_39 F (by omega) d_M_pass_135 ?_
                refine qv_aload_n F d_M_pass_136 3 rfl ?_
                refine g_M_43 F d_M_pass_137 ?_
                refine qv_iload F d_M_pass_140 0 rfl ?_
                refine qv_iload F d_M_pass_142 7 rfl ?_
                refine sv_40 F (by omega) (Or.inl rfl) d_M_pass_144 ?_
                refine qv_aload_n F d_M_pass_145 3 rfl ?_
                refine g_M_34 F d_M_pass_146 ?_
                refine qv_iload_n F d_M_pass_149 4 rfl ?_
                refine qv_dup2 F d_M_pass_150 rfl rfl ?_
                refine ld_37 F (by omega) d_M_pass_151 ?_
                refine qv_iconst F (nI 1) d_M_pass_152 ic_1 ?_
                refine qv_iadd F d_M_pass_153 ?_
                refine sv_37 F (by omega) d_M_pass_154 ?_
                refine qv_aload_n F d_M_pass_155 3 rfl ?_
                refine g_M_34 F d_M_pass_156 ?_
                refine qv_iload_n F d_M_pass_159 4 rfl ?_
                refine ld_37 F (by omega) d_M_pass_160 ?_
                exact qv_iret F hr hlk d_M_pass_161 (ei_of (by rw [us_eq, up_eq]; rfl) rfl)
              ·
                have hge : ¬ σ 37 j < 4 := by omega
                unfold pn_
                rw [if_pos (show (true && true) = true from rfl), if_pos (show (true && true) = true from rfl), if_neg hge, if_neg hge]
                refine qv_bipush F (-2) d_M_pass_105 bic_m2 ?_
                exact qv_iret F hr hlk d_M_pass_107 (ei_of rfl rfl)
            ·
              rw [decide_eq_false hb, Bool.false_and]
              refine qv_iconst F (-1) d_M_pass_93 ic_m1 ?_
              exact qv_iret F hr hlk d_M_pass_94 (ei_of rfl rfl)
        | true =>
          have em : mp_ (mo_ σ) (σ 28 7) (nI j) (nI k) (nI i) true = (decide (k / 4 = σ 35 j) && decide (i / 4 = σ 36 j)) := by
            unfold mp_ of_
            rw [hx, hy, hz, ej, ek, ei]
            rfl
          rw [em, ej, ek, ei]
          refine qv_iload F d_M_pass_33 4 rfl ?_
          refine qv_ifeqB (b := true) F d_M_pass_35 (tgt := 47) rfl (fun q => by cases q) (fun _ => ?_)
          refine qv_aload_n F d_M_pass_38 0 rfl ?_
          refine g_M_31 F d_M_pass_39 ?_
          refine qv_iload_n F d_M_pass_42 1 rfl ?_
          refine ld_36 F (by omega) d_M_pass_43 ?_
          refine qv_goto F d_M_pass_44 rfl ?_
          refine qv_istore (L' := [(5, _), (0, _), (1, _), (2, _), (3, _), (4, _)]) F d_M_pass_53 (by decide) rfl ?_
          refine qv_iload F d_M_pass_55 5 rfl ?_
          refine qv_ifeqB (b := true) F d_M_pass_57 (tgt := 69) rfl (fun q => by cases q) (fun _ => ?_)
          refine qv_aload_n F d_M_pass_60 1 rfl ?_
          refine g_M_28 F d_M_pass_61 ?_
          refine qv_iload_n F d_M_pass_64 2 rfl ?_
          refine ld_35 F (by omega) d_M_pass_65 ?_
          refine qv_goto F d_M_pass_66 rfl ?_
          refine qv_istore (L' := [(6, _), (5, _), (0, _), (1, _), (2, _), (3, _), (4, _)]) F d_M_pass_75 (by decide) rfl ?_
          refine qv_iload_n F d_M_pass_77 5 rfl ?_
          refine qv_iconst F (nI 4) d_M_pass_78 ic_4 ?_
          refine qv_idiv F d_M_pass_79 (by omega) (by decide) (by decide) ?_
          refine qv_iload F d_M_pass_80 1 rfl ?_
          refine qv_icmpne F d_M_pass_82 rfl (by omega) (by omega) (fun hb => ?_) (fun hb => ?_)
          ·
            rw [decide_eq_false hb, Bool.and_false]
            refine qv_iconst F (-1) d_M_pass_93 ic_m1 ?_
            exact qv_iret F hr hlk d_M_pass_94 (ei_of rfl rfl)
          ·
            have h1 := hb
            refine qv_iload_n F d_M_pass_85 4 rfl ?_
            refine qv_iconst F (nI 4) d_M_pass_86 ic_4 ?_
            refine qv_idiv F d_M_pass_87 (by omega) (by decide) (by decide) ?_
            refine qv_iload F d_M_pass_88 0 rfl ?_
            refine qv_icmpeq F d_M_pass_90 rfl (by omega) (by omega) (fun hb => ?_) (fun hb => ?_)
            ·
              rw [decide_eq_true hb, decide_eq_true h1]
              refine qv_aload_n F d_M_pass_95 2 rfl ?_
              refine g_M_34 F d_M_pass_96 ?_
              refine qv_iload_n F d_M_pass_99 3 rfl ?_
              refine ld_37 F (by omega) d_M_pass_100 ?_
              refine qv_iconst F (nI 4) d_M_pass_101 ic_4 ?_
              refine qv_icmpne F d_M_pass_102 rfl (by omega) (by omega) (fun hb => ?_) (fun hb => ?_)
              ·
                have hlt : σ 37 j < 4 := by omega
                unfold pn_
                rw [if_pos (show (true && true) = true from rfl), if_pos (show (true && true) = true from rfl), if_pos hlt, if_pos hlt]
                refine qv_iconst F (nI 4) d_M_pass_108 ic_4 ?_
                refine qv_iload_n F d_M_pass_109 3 rfl ?_
                refine qv_imul F d_M_pass_110 ?_
                refine qv_aload_n F d_M_pass_111 2 rfl ?_
                refine g_M_34 F d_M_pass_112 ?_
                refine qv_iload_n F d_M_pass_115 3 rfl ?_
                refine ld_37 F (by omega) d_M_pass_116 ?_
                refine qv_iadd F d_M_pass_117 ?_
                refine qv_istore (L' := [(7, _), (6, _), (5, _), (0, _), (1, _), (2, _), (3, _), (4, _)]) F d_M_pass_118 (by decide) rfl ?_
                refine qv_aload_n F d_M_pass_120 3 rfl ?_
                refine g_M_37 F d_M_pass_121 ?_
                refine qv_iload F d_M_pass_124 0 rfl ?_
                refine qv_iload_n F d_M_pass_126 5 rfl ?_
                refine sv_38 F (by omega) d_M_pass_127 ?_
                refine qv_aload_n F d_M_pass_128 3 rfl ?_
                refine g_M_40 F d_M_pass_129 ?_
                refine qv_iload F d_M_pass_132 0 rfl ?_
                refine qv_iload_n F d_M_pass_134 6 rfl ?_
                refine sv_39 F (by omega) d_M_pass_135 ?_
                refine qv_aload_n F d_M_pass_136 3 rfl ?_
                refine g_M_43 F d_M_pass_137 ?_
                refine qv_iload F d_M_pass_140 0 rfl ?_
                refine qv_iload F d_M_pass_142 7 rfl ?_
                refine sv_40 F (by omega) (Or.inr rfl) d_M_pass_144 ?_
                refine qv_aload_n F d_M_pass_145 3 rfl ?_
                refine g_M_34 F d_M_pass_146 ?_
                refine qv_iload_n F d_M_pass_149 4 rfl ?_
                refine qv_dup2 F d_M_pass_150 rfl rfl ?_
                refine ld_37 F (by omega) d_M_pass_151 ?_
                refine qv_iconst F (nI 1) d_M_pass_152 ic_1 ?_
                refine qv_iadd F d_M_pass_153 ?_
                refine sv_37 F (by omega) d_M_pass_154 ?_
                refine qv_aload_n F d_M_pass_155 3 rfl ?_
                refine g_M_34 F d_M_pass_156 ?_
                refine qv_iload_n F d_M_pass_159 4 rfl ?_
                refine ld_37 F (by omega) d_M_pass_160 ?_
                exact qv_iret F hr hlk d_M_pass_161 (ei_of (by rw [us_eq, up_eq]; rfl) rfl)
              ·
                have hge : ¬ σ 37 j < 4 := by omega
                unfold pn_
                rw [if_pos (show (true && true) = true from rfl), if_pos (show (true && true) = true from rfl), if_neg hge, if_neg hge]
                refine qv_bipush F (-2) d_M_pass_105 bic_m2 ?_
                exact qv_iret F hr hlk d_M_pass_107 (ei_of rfl rfl)
            ·
              rw [decide_eq_false hb, Bool.false_and]
              refine qv_iconst F (-1) d_M_pass_93 ic_m1 ?_
              exact qv_iret F hr hlk d_M_pass_94 (ei_of rfl rfl)
      ·
        have hm : mp_ (mo_ σ) (σ 28 7) x y z b = false := by unfold mp_ of_; rw [hb]; cases b <;> cases wi_ x (σ 28 7) <;> cases (wi_ y 16) <;> simp
        rw [hm]
        refine qv_iconst F (-1) d_M_pass_31 ic_m1 ?_
        exact qv_iret F hr hlk d_M_pass_32 (ei_of rfl rfl)
set_option maxRecDepth 100000 in
set_option maxHeartbeats 4000000 in
theorem c_M_group (l : Launch) (X : wX) (σ : sg) (C : rl_) (a b : Nat) (ha : a < 4) (hb0 : b < 4) (h41 : σ 41 = rch_ C) : mt_ l X y_M_group w_M_group 0 [.ref (adr X 28), .int (nI a), .int (nI b)] σ (ei_ (nI (gp_ C a b).toNat) σ) := by
  refine mt_of (own := R_M) rfl pl_M (Nat.le_of_ble_eq_true rfl) ?_
  intro zp ze zs zm za zb zt zc F hr hlk
  refine qv_sub (L' := [(0, _), (1, _), (2, _)]) [0, 1, 2] rfl ?_
  have e1 : σ 41 (4 * a + b) = (rx_ C a b).toNat := by rw [h41]; exact rch_at C hb0
  have e2 : σ 41 (4 * b + a) = (rx_ C b a).toNat := by rw [h41]; exact rch_at C ha
  rw [← rx_gp]
  refine qv_aload_n F d_M_group_0 0 rfl ?_
  refine g_M_47 F d_M_group_1 ?_
  refine qv_iconst F (nI 4) d_M_group_4 ic_4 ?_
  refine qv_iload_n F d_M_group_5 1 rfl ?_
  refine qv_imul F d_M_group_6 ?_
  refine qv_iload_n F d_M_group_7 2 rfl ?_
  refine qv_iadd F d_M_group_8 ?_
  refine ld_41 F (by omega) d_M_group_9 ?_
  rw [e1]
  refine qv_ifeqB F d_M_group_10 rfl (fun hb => ?_) (fun hb => ?_)
  ·
    refine qv_iconst F (nI 0) d_M_group_30 ic_0 ?_
    exact qv_zret F hr hlk (by first | exact Or.inl rfl | exact Or.inr rfl | exact bz_01 _) d_M_group_31 (ei_of (by rw [hb]; rfl) rfl)
  ·
    have h1 := hb
    refine qv_aload_n F d_M_group_13 0 rfl ?_
    refine g_M_47 F d_M_group_14 ?_
    refine qv_iconst F (nI 4) d_M_group_17 ic_4 ?_
    refine qv_iload_n F d_M_group_18 2 rfl ?_
    refine qv_imul F d_M_group_19 ?_
    refine qv_iload_n F d_M_group_20 1 rfl ?_
    refine qv_iadd F d_M_group_21 ?_
    refine ld_41 F (by omega) d_M_group_22 ?_
    rw [e2]
    refine qv_ifeqB F d_M_group_23 rfl (fun hb => ?_) (fun hb => ?_)
    ·
      refine qv_iconst F (nI 0) d_M_group_30 ic_0 ?_
      exact qv_zret F hr hlk (by first | exact Or.inl rfl | exact Or.inr rfl | exact bz_01 _) d_M_group_31 (ei_of (by rw [h1, hb]; rfl) rfl)
    ·
      refine qv_iconst F (nI 1) d_M_group_26 ic_1 ?_
      refine qv_goto F d_M_group_27 rfl ?_
      exact qv_zret F hr hlk (by first | exact Or.inl rfl | exact Or.inr rfl | exact bz_01 _) d_M_group_31 (ei_of (by rw [h1, hb]; rfl) rfl)
set_option maxRecDepth 100000 in
set_option maxHeartbeats 4000000 in
theorem c_M_isOuter (l : Launch) (X : wX) (σ : sg) (C : rl_) (k : Nat) (hk : k < 8) (h11 : ∀ k, σ 35 k < 4) (h12 : ∀ k, σ 36 k < 4) (h41 : σ 41 = rch_ C) : mt_ l X y_M_isOuter w_M_isOuter 1 [.ref (adr X 28), .int (nI k)] σ (ei_ (nI (ou_ (mo_ σ) C k).toNat) σ) := by
  refine mt_of (own := R_M) rfl pl_M (Nat.le_of_ble_eq_true rfl) ?_
  intro zp ze zs zm za zb zt zc F hr hlk
  refine qv_sub (L' := [(0, _), (1, _)]) [0, 1] rfl ?_
  refine qv_aload_n F d_M_isOuter_0 0 rfl ?_
  refine qv_aload_n F d_M_isOuter_1 0 rfl ?_
  refine g_M_28 F d_M_isOuter_2 ?_
  refine qv_iload_n F d_M_isOuter_5 1 rfl ?_
  refine ld_35 F (by omega) d_M_isOuter_6 ?_
  refine qv_aload_n F d_M_isOuter_7 0 rfl ?_
  refine g_M_31 F d_M_isOuter_8 ?_
  refine qv_iload_n F d_M_isOuter_11 1 rfl ?_
  refine ld_36 F (by omega) d_M_isOuter_12 ?_
  refine i_M_89i F (c_M_group l X σ C (σ 35 k) (σ 36 k) (h11 k) (h12 k) h41) (by decide) (Nat.le_of_ble_eq_true rfl) d_M_isOuter_13 ?_
  refine qv_ifneB F d_M_isOuter_16 rfl (fun hb => ?_) (fun hb => ?_)
  ·
    have hb : gp_ C (mo_ σ 11 k) (mo_ σ 12 k) = true := hb
    refine qv_iconst F (nI 0) d_M_isOuter_23 ic_0 ?_
    exact qv_zret F hr hlk (by first | exact Or.inl rfl | exact Or.inr rfl | exact bz_01 _) d_M_isOuter_24 (ei_of (by unfold ou_; rw [hb]; rfl) rfl)
  ·
    have hb : gp_ C (mo_ σ 11 k) (mo_ σ 12 k) = false := hb
    refine qv_iconst F (nI 1) d_M_isOuter_19 ic_1 ?_
    refine qv_goto F d_M_isOuter_20 rfl ?_
    exact qv_zret F hr hlk (by first | exact Or.inl rfl | exact Or.inr rfl | exact bz_01 _) d_M_isOuter_24 (ei_of (by unfold ou_; rw [hb]; rfl) rfl)
set_option maxRecDepth 100000 in
set_option maxHeartbeats 4000000 in
theorem c_M_brought (l : Launch) (X : wX) (σ : sg) (C : rl_) (mm n : Nat) (hn : n ≤ 8) (hm : mm < 4) (h11 : ∀ k, σ 35 k < 4) (h12 : ∀ k, σ 36 k < 4) (h41 : σ 41 = rch_ C) : mt_ l X y_M_brought w_M_brought 2 [.ref (adr X 28), .int (nI mm), .int (nI n)] σ (ei_ (nI (br_ (mo_ σ) C (σ 42) mm n)) σ) := by
  refine mt_of (own := R_M) rfl pl_M (Nat.le_of_ble_eq_true rfl) ?_
  intro zp ze zs zm za zb zt zc F hr hlk
  refine qv_sub (L' := [(0, _), (1, _), (2, _)]) [0, 1, 2] rfl ?_
  refine qv_iconst F (nI 0) d_M_brought_0 ic_0 ?_
  refine qv_istore_n (L' := [(3, _), (0, _), (1, _), (2, _)]) F d_M_brought_1 (by decide) rfl ?_
  refine qv_iconst F (nI 0) d_M_brought_2 ic_0 ?_
  refine qv_istore (L' := [(4, _), (3, _), (0, _), (1, _), (2, _)]) F d_M_brought_3 (by decide) rfl ?_
  have lp := lu_up (fun i (_ : Unit) => vv_ zp l ze (rr_ 2) zs zm za zb zt zc (MQ zb (mq_ X (ei_ (nI (br_ (mo_ σ) C (σ 42) mm n)) σ)) za zs 0 0 (aw_ X)) X 5 [(4, .int (nI i)), (3, .int (nI (br_ (mo_ σ) C (σ 42) mm i))), (0, .ref (adr X 28)), (1, .int (nI mm)), (2, .int (nI n))] σ 5 []) (fun _ _ => True) n ?_ ?_ 0 () (Nat.zero_le _) trivial
  · exact lp
  · intro _ _
    refine qv_iload F d_M_brought_5 0 rfl ?_
    refine qv_iload_n F d_M_brought_7 4 rfl ?_
    refine qv_icmpge F d_M_brought_8 rfl (by omega) (by omega) (fun hb => ?_) (fun hb => ?_)
    ·
      refine qv_iload_n F d_M_brought_60 1 rfl ?_
      exact qv_iret F hr hlk d_M_brought_61 (ei_of rfl rfl)
    ·
      omega
  · intro i _ hi _ ih
    have ih := ih () trivial
    have q11 := h11 i
    have e0 : br_ (mo_ σ) C (σ 42) mm (i + 1) = br_ (mo_ σ) C (σ 42) mm i + b1_ (mo_ σ) C (σ 42) mm i := rfl
    refine qv_iload F d_M_brought_5 0 rfl ?_
    refine qv_iload_n F d_M_brought_7 4 rfl ?_
    refine qv_icmpge F d_M_brought_8 rfl (by omega) (by omega) (fun hb => ?_) (fun hb => ?_)
    ·
      omega
    ·
      refine qv_iload_n F d_M_brought_11 1 rfl ?_
      refine qv_aload_n F d_M_brought_12 2 rfl ?_
      refine qv_iload F d_M_brought_13 0 rfl ?_
      refine i_M_92i F (c_M_isOuter l X σ C i (by omega) h11 h12 h41) (by decide) (Nat.le_of_ble_eq_true rfl) d_M_brought_15 ?_
      refine qv_ifeqB F d_M_brought_18 rfl (fun hb => ?_) (fun hb => ?_)
      ·
        have e1 : b1_ (mo_ σ) C (σ 42) mm i = 0 := by unfold b1_; rw [hb]; rfl
        rw [e0, e1] at ih
        refine qv_iconst F (nI 0) d_M_brought_51 ic_0 ?_
        refine qv_iadd F d_M_brought_52 ?_
        refine qv_istore_n (L' := [(3, _), (4, _), (0, _), (1, _), (2, _)]) F d_M_brought_53 (by decide) rfl ?_
        refine qv_sub (L' := [(4, _), (3, _), (0, _), (1, _), (2, _)]) [1, 0, 2, 3, 4] rfl ?_
        refine qv_iinc (L' := [(4, _), (3, _), (0, _), (1, _), (2, _)]) F _ d_M_brought_54 0 rfl (ii_1 _) (by decide) rfl ?_
        refine qv_goto F d_M_brought_57 rfl ?_
        exact ih
      ·
        have ho := hb
        refine qv_aload_n F d_M_brought_21 2 rfl ?_
        refine qv_aload_n F d_M_brought_22 2 rfl ?_
        refine g_M_31 F d_M_brought_23 ?_
        refine qv_iload F d_M_brought_26 0 rfl ?_
        refine ld_36 F (by omega) d_M_brought_28 ?_
        refine qv_iload_n F d_M_brought_29 3 rfl ?_
        refine i_M_89i F (c_M_group l X σ C (σ 36 i) mm (h12 i) hm h41) (by decide) (Nat.le_of_ble_eq_true rfl) d_M_brought_30 ?_
        refine qv_ifeqB F d_M_brought_33 rfl (fun hb => ?_) (fun hb => ?_)
        ·
          have hb : gp_ C (mo_ σ 12 i) mm = false := hb
          have e1 : b1_ (mo_ σ) C (σ 42) mm i = 0 := by unfold b1_; rw [ho, hb]; rfl
          rw [e0, e1] at ih
          refine qv_iconst F (nI 0) d_M_brought_51 ic_0 ?_
          refine qv_iadd F d_M_brought_52 ?_
          refine qv_istore_n (L' := [(3, _), (4, _), (0, _), (1, _), (2, _)]) F d_M_brought_53 (by decide) rfl ?_
          refine qv_sub (L' := [(4, _), (3, _), (0, _), (1, _), (2, _)]) [1, 0, 2, 3, 4] rfl ?_
          refine qv_iinc (L' := [(4, _), (3, _), (0, _), (1, _), (2, _)]) F _ d_M_brought_54 0 rfl (ii_1 _) (by decide) rfl ?_
          refine qv_goto F d_M_brought_57 rfl ?_
          exact ih
        ·
          have hb : gp_ C (mo_ σ 12 i) mm = true := hb
          have e1 : b1_ (mo_ σ) C (σ 42) mm i = σ 42 (σ 35 i) := by unfold b1_; rw [ho, hb]; rfl
          rw [e0, e1] at ih
          refine qv_aload_n F d_M_brought_36 2 rfl ?_
          refine g_M_50 F d_M_brought_37 ?_
          refine qv_aload_n F d_M_brought_40 2 rfl ?_
          refine g_M_28 F d_M_brought_41 ?_
          refine qv_iload F d_M_brought_44 0 rfl ?_
          refine ld_35 F (by omega) d_M_brought_46 ?_
          refine ld_42 F (by omega) d_M_brought_47 ?_
          refine qv_goto F d_M_brought_48 rfl ?_
          refine qv_iadd F d_M_brought_52 ?_
          refine qv_istore_n (L' := [(3, _), (4, _), (0, _), (1, _), (2, _)]) F d_M_brought_53 (by decide) rfl ?_
          refine qv_sub (L' := [(4, _), (3, _), (0, _), (1, _), (2, _)]) [1, 0, 2, 3, 4] rfl ?_
          refine qv_iinc (L' := [(4, _), (3, _), (0, _), (1, _), (2, _)]) F _ d_M_brought_54 0 rfl (ii_1 _) (by decide) rfl ?_
          refine qv_goto F d_M_brought_57 rfl ?_
          exact ih
end
section
/-! the reference's table, while it is filled -/
theorem t16 {P : Nat → Prop} (h : ∀ a b, a < 4 → b < 4 → P (4 * a + b)) : ∀ k, k < 16 → P k := fun k hk => by
  have := h (k / 4) (k % 4) (by omega) (by omega)
  rwa [show 4 * (k / 4) + k % 4 = k by omega] at this
/-- the table says C, but the first a0 rows and b0 of the next say D -/
def tb2_ (C D : rl_) (a0 b0 : Nat) (g : Nat → Nat) : Prop := ∀ a b, a < 4 → b < 4 → g (4 * a + b) = (if a < a0 ∨ (a = a0 ∧ b < b0) then rx_ D a b else rx_ C a b).toNat
theorem tb2_up {C D : rl_} {a0 b0 x : Nat} {g : Nat → Nat} (h : tb2_ C D a0 b0 g) (hb0 : b0 < 4) (hx : x = (rx_ D a0 b0).toNat) : tb2_ C D a0 (b0 + 1) (va_up g (4 * a0 + b0) x) := by
  intro a b ha hb
  by_cases e : 4 * a + b = 4 * a0 + b0
  · obtain ⟨rfl, rfl⟩ : a = a0 ∧ b = b0 := by omega
    rw [up_eq, if_pos (by omega), hx]
  · rw [up_ne e, h a b ha hb]
    by_cases q : a < a0 ∨ (a = a0 ∧ b < b0)
    · rw [if_pos q, if_pos (by omega)]
    · rw [if_neg q, if_neg (by omega)]
theorem tb2_next {C D : rl_} {a0 : Nat} {g : Nat → Nat} (h : tb2_ C D a0 4 g) : tb2_ C D (a0 + 1) 0 g := by
  intro a b ha hb
  rw [h a b ha hb]
  by_cases q : a < a0 + 1
  · rw [if_pos (by omega), if_pos (by omega)]
  · rw [if_neg (by omega), if_neg (by omega)]
theorem tb2_0 {C D : rl_} {g : Nat → Nat} (h : ∀ a b, a < 4 → b < 4 → g (4 * a + b) = (rx_ C a b).toNat) : tb2_ C D 0 0 g := by
  intro a b ha hb
  rw [h a b ha hb, if_neg (by omega)]
theorem tb2_end {C D : rl_} {g : Nat → Nat} (h : tb2_ C D 4 0 g) : ∀ a b, a < 4 → b < 4 → g (4 * a + b) = (rx_ D a b).toNat := by
  intro a b ha hb
  rw [h a b ha hb, if_pos (by omega)]
/-- while the middle is m: the row of m and the column of m stay -/
theorem tb2_col {C : rl_} {m a0 b0 : Nat} {g : Nat → Nat} (h : tb2_ C (w1_ m C) a0 b0 g) {a : Nat} (ha : a < 4) (hm : m < 4) : g (4 * a + m) = (rx_ C a m).toNat := by
  rw [h a m ha hm]
  by_cases q : a < a0 ∨ (a = a0 ∧ m < b0)
  · rw [if_pos q, rx_col]
  · rw [if_neg q]
theorem tb2_row {C : rl_} {m a0 b0 : Nat} {g : Nat → Nat} (h : tb2_ C (w1_ m C) a0 b0 g) {b : Nat} (hb : b < 4) (hm : m < 4) : g (4 * m + b) = (rx_ C m b).toNat := by
  rw [h m b hm hb]
  by_cases q : m < a0 ∨ (m = a0 ∧ b < b0)
  · rw [if_pos q, rx_row]
  · rw [if_neg q]
theorem tb2_here {C D : rl_} {a0 b0 : Nat} {g : Nat → Nat} (h : tb2_ C D a0 b0 g) (ha : a0 < 4) (hb : b0 < 4) : g (4 * a0 + b0) = (rx_ C a0 b0).toNat := by
  rw [h a0 b0 ha hb, if_neg (by omega)]
/-- the reference's counts -/
def S5_ (t : sg) (C : rl_) (nc : Nat) : Nat → Nat := sn_ (f2_ t C nc) (fun _ => 1) 5
theorem cl9_9 (n : Nat) : cl9 n ≤ 9 := by
  unfold cl9
  by_cases e : n = 0
  · rw [if_pos e]; decide
  · rw [if_neg e]
    by_cases e9 : 9 < n
    · rw [if_pos e9]; exact Nat.le_refl _
    · rw [if_neg e9]; omega
theorem sw_9 {t : sg} {C : rl_} {nc : Nat} {f : Nat → Nat} (hf : ∀ a, f a ≤ 9) : ∀ n a, sw_ (f2_ t C nc) f n a ≤ 9
  | 0, a => hf a
  | n + 1, a => by
    show va_up (sw_ (f2_ t C nc) f n) n (f2_ t C nc (sw_ (f2_ t C nc) f n) n) a ≤ 9
    by_cases e : a = n
    · subst e; rw [up_eq]; exact cl9_9 _
    · rw [up_ne e]; exact sw_9 hf n a
theorem sn_9 {t : sg} {C : rl_} {nc : Nat} : ∀ n a, sn_ (f2_ t C nc) (fun _ => 1) n a ≤ 9
  | 0, a => by show 1 ≤ 9; decide
  | n + 1, a => sw_9 (sn_9 n) 4 a
theorem br_72 {t : sg} {C : rl_} {f : Nat → Nat} {m n : Nat} (hf : ∀ a, f a ≤ 9) (hn : n ≤ 8) : br_ t C f m n ≤ 72 := by
  have h := sm_cap (f := b1_ t C f m) (b := 9) n (fun k _ => by
    unfold b1_
    by_cases e : (ou_ t C k && gp_ C (t 12 k) m) = true
    · rw [if_pos e]; exact hf _
    · rw [if_neg e]; decide)
  unfold br_
  omega
theorem fw_st (t : sg) (v h : Nat) : fw_ t v h ||| (t 6 v / 2 ^ t 5 h &&& 1) * 2 ^ h = fw_ t v (h + 1) := by
  show _ = fw_ t v h ||| (if (t 6 v).testBit (t 5 h) = true then 1 * 2 ^ h else 0)
  rw [bt_and]
  cases (t 6 v).testBit (t 5 h) with
  | true => rfl
  | false => rw [if_neg (by decide)]; show fw_ t v h ||| 0 * 2 ^ h = _; rw [Nat.zero_mul]
theorem ha_st (hl : Nat → Nat) (set f h : Nat) : ha_ hl set f (h + 1) = ha_ hl set f h ||| (if set.testBit h = true then hl (h * 2 + f) else 0) := rfl
end
section
abbrev b_M_count : ByteArray := prog_7_method_17_code
def y_M_count : MethodName := ⟨R_M, "count", "()Z"⟩
abbrev w_M_count : List Cond := wz_ y_M_count b_M_count 5 (some .boolean)
abbrev b_M_fitting : ByteArray := prog_7_method_18_code
def y_M_fitting : MethodName := ⟨R_M, "fitting", "(I)I"⟩
abbrev w_M_fitting : List Cond := wz_ y_M_fitting b_M_fitting 4 (some .int)
abbrev b_M_reaches : ByteArray := prog_7_method_13_code
def y_M_reaches : MethodName := ⟨R_M, "reaches", "()V"⟩
abbrev w_M_reaches : List Cond := wz_ y_M_reaches b_M_reaches 4 none
end
section
theorem d_M_count_0 : decode b_M_count 0 = .ok (.iconst 1, 1) := by decide +kernel
theorem d_M_count_1 : decode b_M_count 1 = .ok (.istore_n 1, 1) := by decide +kernel
theorem d_M_count_2 : decode b_M_count 2 = .ok (.iconst 0, 1) := by decide +kernel
theorem d_M_count_3 : decode b_M_count 3 = .ok (.istore_n 2, 1) := by decide +kernel
theorem d_M_count_4 : decode b_M_count 4 = .ok (.iload_n 2, 1) := by decide +kernel
theorem d_M_count_5 : decode b_M_count 5 = .ok (.iconst 4, 1) := by decide +kernel
theorem d_M_count_6 : decode b_M_count 6 = .ok (.if_icmp .ge 16, 3) := by decide +kernel
theorem d_M_count_9 : decode b_M_count 9 = .ok (.aload_n 0, 1) := by decide +kernel
theorem d_M_count_10 : decode b_M_count 10 = .ok (.getfield 50, 3) := by decide +kernel
theorem d_M_count_13 : decode b_M_count 13 = .ok (.iload_n 2, 1) := by decide +kernel
theorem d_M_count_14 : decode b_M_count 14 = .ok (.iconst 1, 1) := by decide +kernel
theorem d_M_count_15 : decode b_M_count 15 = .ok (.iastore, 1) := by decide +kernel
theorem d_M_count_16 : decode b_M_count 16 = .ok (.iinc 2 1, 3) := by decide +kernel
theorem d_M_count_19 : decode b_M_count 19 = .ok (.goto (-15), 3) := by decide +kernel
theorem d_M_count_22 : decode b_M_count 22 = .ok (.iconst 0, 1) := by decide +kernel
theorem d_M_count_23 : decode b_M_count 23 = .ok (.istore_n 2, 1) := by decide +kernel
theorem d_M_count_24 : decode b_M_count 24 = .ok (.iload_n 2, 1) := by decide +kernel
theorem d_M_count_25 : decode b_M_count 25 = .ok (.iconst 5, 1) := by decide +kernel
theorem d_M_count_26 : decode b_M_count 26 = .ok (.if_icmp .ge 62, 3) := by decide +kernel
theorem d_M_count_29 : decode b_M_count 29 = .ok (.iconst 0, 1) := by decide +kernel
theorem d_M_count_30 : decode b_M_count 30 = .ok (.istore_n 3, 1) := by decide +kernel
theorem d_M_count_31 : decode b_M_count 31 = .ok (.iload_n 3, 1) := by decide +kernel
theorem d_M_count_32 : decode b_M_count 32 = .ok (.iconst 4, 1) := by decide +kernel
theorem d_M_count_33 : decode b_M_count 33 = .ok (.if_icmp .ge 49, 3) := by decide +kernel
theorem d_M_count_36 : decode b_M_count 36 = .ok (.aload_n 0, 1) := by decide +kernel
theorem d_M_count_37 : decode b_M_count 37 = .ok (.iload_n 3, 1) := by decide +kernel
theorem d_M_count_38 : decode b_M_count 38 = .ok (.aload_n 0, 1) := by decide +kernel
theorem d_M_count_39 : decode b_M_count 39 = .ok (.getfield 86, 3) := by decide +kernel
theorem d_M_count_42 : decode b_M_count 42 = .ok (.invokevirtual 96, 3) := by decide +kernel
theorem d_M_count_45 : decode b_M_count 45 = .ok (.istore 4, 2) := by decide +kernel
theorem d_M_count_47 : decode b_M_count 47 = .ok (.aload_n 0, 1) := by decide +kernel
theorem d_M_count_48 : decode b_M_count 48 = .ok (.getfield 50, 3) := by decide +kernel
theorem d_M_count_51 : decode b_M_count 51 = .ok (.iload_n 3, 1) := by decide +kernel
theorem d_M_count_52 : decode b_M_count 52 = .ok (.iload 4, 2) := by decide +kernel
theorem d_M_count_54 : decode b_M_count 54 = .ok (.ifCond .ne 7, 3) := by decide +kernel
theorem d_M_count_57 : decode b_M_count 57 = .ok (.iconst 1, 1) := by decide +kernel
theorem d_M_count_58 : decode b_M_count 58 = .ok (.goto 17, 3) := by decide +kernel
theorem d_M_count_61 : decode b_M_count 61 = .ok (.iload 4, 2) := by decide +kernel
theorem d_M_count_63 : decode b_M_count 63 = .ok (.bipush 9, 2) := by decide +kernel
theorem d_M_count_65 : decode b_M_count 65 = .ok (.if_icmp .le 8, 3) := by decide +kernel
theorem d_M_count_68 : decode b_M_count 68 = .ok (.bipush 9, 2) := by decide +kernel
theorem d_M_count_70 : decode b_M_count 70 = .ok (.goto 5, 3) := by decide +kernel
theorem d_M_count_73 : decode b_M_count 73 = .ok (.iload 4, 2) := by decide +kernel
theorem d_M_count_75 : decode b_M_count 75 = .ok (.iastore, 1) := by decide +kernel
theorem d_M_count_76 : decode b_M_count 76 = .ok (.iinc 3 1, 3) := by decide +kernel
theorem d_M_count_79 : decode b_M_count 79 = .ok (.goto (-48), 3) := by decide +kernel
theorem d_M_count_82 : decode b_M_count 82 = .ok (.iinc 2 1, 3) := by decide +kernel
theorem d_M_count_85 : decode b_M_count 85 = .ok (.goto (-61), 3) := by decide +kernel
theorem d_M_count_88 : decode b_M_count 88 = .ok (.iconst 0, 1) := by decide +kernel
theorem d_M_count_89 : decode b_M_count 89 = .ok (.istore_n 2, 1) := by decide +kernel
theorem d_M_count_90 : decode b_M_count 90 = .ok (.iload_n 2, 1) := by decide +kernel
theorem d_M_count_91 : decode b_M_count 91 = .ok (.iconst 4, 1) := by decide +kernel
theorem d_M_count_92 : decode b_M_count 92 = .ok (.if_icmp .ge 30, 3) := by decide +kernel
theorem d_M_count_95 : decode b_M_count 95 = .ok (.iload_n 1, 1) := by decide +kernel
theorem d_M_count_96 : decode b_M_count 96 = .ok (.ifCond .eq 18, 3) := by decide +kernel
theorem d_M_count_99 : decode b_M_count 99 = .ok (.aload_n 0, 1) := by decide +kernel
theorem d_M_count_100 : decode b_M_count 100 = .ok (.getfield 50, 3) := by decide +kernel
theorem d_M_count_103 : decode b_M_count 103 = .ok (.iload_n 2, 1) := by decide +kernel
theorem d_M_count_104 : decode b_M_count 104 = .ok (.iaload, 1) := by decide +kernel
theorem d_M_count_105 : decode b_M_count 105 = .ok (.bipush 8, 2) := by decide +kernel
theorem d_M_count_107 : decode b_M_count 107 = .ok (.if_icmp .gt 7, 3) := by decide +kernel
theorem d_M_count_110 : decode b_M_count 110 = .ok (.iconst 1, 1) := by decide +kernel
theorem d_M_count_111 : decode b_M_count 111 = .ok (.goto 4, 3) := by decide +kernel
theorem d_M_count_114 : decode b_M_count 114 = .ok (.iconst 0, 1) := by decide +kernel
theorem d_M_count_115 : decode b_M_count 115 = .ok (.istore_n 1, 1) := by decide +kernel
theorem d_M_count_116 : decode b_M_count 116 = .ok (.iinc 2 1, 3) := by decide +kernel
theorem d_M_count_119 : decode b_M_count 119 = .ok (.goto (-29), 3) := by decide +kernel
theorem d_M_count_122 : decode b_M_count 122 = .ok (.iload_n 1, 1) := by decide +kernel
theorem d_M_count_123 : decode b_M_count 123 = .ok (.ireturn, 1) := by decide +kernel
theorem d_M_fitting_0 : decode b_M_fitting 0 = .ok (.iconst 0, 1) := by decide +kernel
theorem d_M_fitting_1 : decode b_M_fitting 1 = .ok (.istore_n 2, 1) := by decide +kernel
theorem d_M_fitting_2 : decode b_M_fitting 2 = .ok (.iconst 0, 1) := by decide +kernel
theorem d_M_fitting_3 : decode b_M_fitting 3 = .ok (.istore_n 3, 1) := by decide +kernel
theorem d_M_fitting_4 : decode b_M_fitting 4 = .ok (.iload_n 3, 1) := by decide +kernel
theorem d_M_fitting_5 : decode b_M_fitting 5 = .ok (.bipush 8, 2) := by decide +kernel
theorem d_M_fitting_7 : decode b_M_fitting 7 = .ok (.if_icmp .ge 29, 3) := by decide +kernel
theorem d_M_fitting_10 : decode b_M_fitting 10 = .ok (.iload_n 2, 1) := by decide +kernel
theorem d_M_fitting_11 : decode b_M_fitting 11 = .ok (.aload_n 0, 1) := by decide +kernel
theorem d_M_fitting_12 : decode b_M_fitting 12 = .ok (.getfield 13, 3) := by decide +kernel
theorem d_M_fitting_15 : decode b_M_fitting 15 = .ok (.iload_n 1, 1) := by decide +kernel
theorem d_M_fitting_16 : decode b_M_fitting 16 = .ok (.iaload, 1) := by decide +kernel
theorem d_M_fitting_17 : decode b_M_fitting 17 = .ok (.aload_n 0, 1) := by decide +kernel
theorem d_M_fitting_18 : decode b_M_fitting 18 = .ok (.getfield 7, 3) := by decide +kernel
theorem d_M_fitting_21 : decode b_M_fitting 21 = .ok (.iload_n 3, 1) := by decide +kernel
theorem d_M_fitting_22 : decode b_M_fitting 22 = .ok (.iaload, 1) := by decide +kernel
theorem d_M_fitting_23 : decode b_M_fitting 23 = .ok (.ishr, 1) := by decide +kernel
theorem d_M_fitting_24 : decode b_M_fitting 24 = .ok (.iconst 1, 1) := by decide +kernel
theorem d_M_fitting_25 : decode b_M_fitting 25 = .ok (.iand, 1) := by decide +kernel
theorem d_M_fitting_26 : decode b_M_fitting 26 = .ok (.iload_n 3, 1) := by decide +kernel
theorem d_M_fitting_27 : decode b_M_fitting 27 = .ok (.ishl, 1) := by decide +kernel
theorem d_M_fitting_28 : decode b_M_fitting 28 = .ok (.ior, 1) := by decide +kernel
theorem d_M_fitting_29 : decode b_M_fitting 29 = .ok (.istore_n 2, 1) := by decide +kernel
theorem d_M_fitting_30 : decode b_M_fitting 30 = .ok (.iinc 3 1, 3) := by decide +kernel
theorem d_M_fitting_33 : decode b_M_fitting 33 = .ok (.goto (-29), 3) := by decide +kernel
theorem d_M_fitting_36 : decode b_M_fitting 36 = .ok (.iload_n 2, 1) := by decide +kernel
theorem d_M_fitting_37 : decode b_M_fitting 37 = .ok (.ireturn, 1) := by decide +kernel
theorem d_M_reaches_0 : decode b_M_reaches 0 = .ok (.iconst 0, 1) := by decide +kernel
theorem d_M_reaches_1 : decode b_M_reaches 1 = .ok (.istore_n 1, 1) := by decide +kernel
theorem d_M_reaches_2 : decode b_M_reaches 2 = .ok (.iload_n 1, 1) := by decide +kernel
theorem d_M_reaches_3 : decode b_M_reaches 3 = .ok (.bipush 16, 2) := by decide +kernel
theorem d_M_reaches_5 : decode b_M_reaches 5 = .ok (.if_icmp .ge 26, 3) := by decide +kernel
theorem d_M_reaches_8 : decode b_M_reaches 8 = .ok (.aload_n 0, 1) := by decide +kernel
theorem d_M_reaches_9 : decode b_M_reaches 9 = .ok (.getfield 47, 3) := by decide +kernel
theorem d_M_reaches_12 : decode b_M_reaches 12 = .ok (.iload_n 1, 1) := by decide +kernel
theorem d_M_reaches_13 : decode b_M_reaches 13 = .ok (.iload_n 1, 1) := by decide +kernel
theorem d_M_reaches_14 : decode b_M_reaches 14 = .ok (.iconst 5, 1) := by decide +kernel
theorem d_M_reaches_15 : decode b_M_reaches 15 = .ok (.irem, 1) := by decide +kernel
theorem d_M_reaches_16 : decode b_M_reaches 16 = .ok (.ifCond .ne 7, 3) := by decide +kernel
theorem d_M_reaches_19 : decode b_M_reaches 19 = .ok (.iconst 1, 1) := by decide +kernel
theorem d_M_reaches_20 : decode b_M_reaches 20 = .ok (.goto 4, 3) := by decide +kernel
theorem d_M_reaches_23 : decode b_M_reaches 23 = .ok (.iconst 0, 1) := by decide +kernel
theorem d_M_reaches_24 : decode b_M_reaches 24 = .ok (.bastore, 1) := by decide +kernel
theorem d_M_reaches_25 : decode b_M_reaches 25 = .ok (.iinc 1 1, 3) := by decide +kernel
theorem d_M_reaches_28 : decode b_M_reaches 28 = .ok (.goto (-26), 3) := by decide +kernel
theorem d_M_reaches_31 : decode b_M_reaches 31 = .ok (.iconst 0, 1) := by decide +kernel
theorem d_M_reaches_32 : decode b_M_reaches 32 = .ok (.istore_n 1, 1) := by decide +kernel
theorem d_M_reaches_33 : decode b_M_reaches 33 = .ok (.iload_n 1, 1) := by decide +kernel
theorem d_M_reaches_34 : decode b_M_reaches 34 = .ok (.aload_n 0, 1) := by decide +kernel
theorem d_M_reaches_35 : decode b_M_reaches 35 = .ok (.getfield 86, 3) := by decide +kernel
theorem d_M_reaches_38 : decode b_M_reaches 38 = .ok (.if_icmp .ge 30, 3) := by decide +kernel
theorem d_M_reaches_41 : decode b_M_reaches 41 = .ok (.aload_n 0, 1) := by decide +kernel
theorem d_M_reaches_42 : decode b_M_reaches 42 = .ok (.getfield 47, 3) := by decide +kernel
theorem d_M_reaches_45 : decode b_M_reaches 45 = .ok (.iconst 4, 1) := by decide +kernel
theorem d_M_reaches_46 : decode b_M_reaches 46 = .ok (.aload_n 0, 1) := by decide +kernel
theorem d_M_reaches_47 : decode b_M_reaches 47 = .ok (.getfield 28, 3) := by decide +kernel
theorem d_M_reaches_50 : decode b_M_reaches 50 = .ok (.iload_n 1, 1) := by decide +kernel
theorem d_M_reaches_51 : decode b_M_reaches 51 = .ok (.iaload, 1) := by decide +kernel
theorem d_M_reaches_52 : decode b_M_reaches 52 = .ok (.imul, 1) := by decide +kernel
theorem d_M_reaches_53 : decode b_M_reaches 53 = .ok (.aload_n 0, 1) := by decide +kernel
theorem d_M_reaches_54 : decode b_M_reaches 54 = .ok (.getfield 31, 3) := by decide +kernel
theorem d_M_reaches_57 : decode b_M_reaches 57 = .ok (.iload_n 1, 1) := by decide +kernel
theorem d_M_reaches_58 : decode b_M_reaches 58 = .ok (.iaload, 1) := by decide +kernel
theorem d_M_reaches_59 : decode b_M_reaches 59 = .ok (.iadd, 1) := by decide +kernel
theorem d_M_reaches_60 : decode b_M_reaches 60 = .ok (.iconst 1, 1) := by decide +kernel
theorem d_M_reaches_61 : decode b_M_reaches 61 = .ok (.bastore, 1) := by decide +kernel
theorem d_M_reaches_62 : decode b_M_reaches 62 = .ok (.iinc 1 1, 3) := by decide +kernel
theorem d_M_reaches_65 : decode b_M_reaches 65 = .ok (.goto (-32), 3) := by decide +kernel
theorem d_M_reaches_68 : decode b_M_reaches 68 = .ok (.iconst 0, 1) := by decide +kernel
theorem d_M_reaches_69 : decode b_M_reaches 69 = .ok (.istore_n 1, 1) := by decide +kernel
theorem d_M_reaches_70 : decode b_M_reaches 70 = .ok (.iload_n 1, 1) := by decide +kernel
theorem d_M_reaches_71 : decode b_M_reaches 71 = .ok (.iconst 4, 1) := by decide +kernel
theorem d_M_reaches_72 : decode b_M_reaches 72 = .ok (.if_icmp .ge 89, 3) := by decide +kernel
theorem d_M_reaches_75 : decode b_M_reaches 75 = .ok (.iconst 0, 1) := by decide +kernel
theorem d_M_reaches_76 : decode b_M_reaches 76 = .ok (.istore_n 2, 1) := by decide +kernel
theorem d_M_reaches_77 : decode b_M_reaches 77 = .ok (.iload_n 2, 1) := by decide +kernel
theorem d_M_reaches_78 : decode b_M_reaches 78 = .ok (.iconst 4, 1) := by decide +kernel
theorem d_M_reaches_79 : decode b_M_reaches 79 = .ok (.if_icmp .ge 76, 3) := by decide +kernel
theorem d_M_reaches_82 : decode b_M_reaches 82 = .ok (.iconst 0, 1) := by decide +kernel
theorem d_M_reaches_83 : decode b_M_reaches 83 = .ok (.istore_n 3, 1) := by decide +kernel
theorem d_M_reaches_84 : decode b_M_reaches 84 = .ok (.iload_n 3, 1) := by decide +kernel
theorem d_M_reaches_85 : decode b_M_reaches 85 = .ok (.iconst 4, 1) := by decide +kernel
theorem d_M_reaches_86 : decode b_M_reaches 86 = .ok (.if_icmp .ge 63, 3) := by decide +kernel
theorem d_M_reaches_89 : decode b_M_reaches 89 = .ok (.aload_n 0, 1) := by decide +kernel
theorem d_M_reaches_90 : decode b_M_reaches 90 = .ok (.getfield 47, 3) := by decide +kernel
theorem d_M_reaches_93 : decode b_M_reaches 93 = .ok (.iconst 4, 1) := by decide +kernel
theorem d_M_reaches_94 : decode b_M_reaches 94 = .ok (.iload_n 2, 1) := by decide +kernel
theorem d_M_reaches_95 : decode b_M_reaches 95 = .ok (.imul, 1) := by decide +kernel
theorem d_M_reaches_96 : decode b_M_reaches 96 = .ok (.iload_n 3, 1) := by decide +kernel
theorem d_M_reaches_97 : decode b_M_reaches 97 = .ok (.iadd, 1) := by decide +kernel
theorem d_M_reaches_98 : decode b_M_reaches 98 = .ok (.aload_n 0, 1) := by decide +kernel
theorem d_M_reaches_99 : decode b_M_reaches 99 = .ok (.getfield 47, 3) := by decide +kernel
theorem d_M_reaches_102 : decode b_M_reaches 102 = .ok (.iconst 4, 1) := by decide +kernel
theorem d_M_reaches_103 : decode b_M_reaches 103 = .ok (.iload_n 2, 1) := by decide +kernel
theorem d_M_reaches_104 : decode b_M_reaches 104 = .ok (.imul, 1) := by decide +kernel
theorem d_M_reaches_105 : decode b_M_reaches 105 = .ok (.iload_n 3, 1) := by decide +kernel
theorem d_M_reaches_106 : decode b_M_reaches 106 = .ok (.iadd, 1) := by decide +kernel
theorem d_M_reaches_107 : decode b_M_reaches 107 = .ok (.baload, 1) := by decide +kernel
theorem d_M_reaches_108 : decode b_M_reaches 108 = .ok (.ifCond .ne 29, 3) := by decide +kernel
theorem d_M_reaches_111 : decode b_M_reaches 111 = .ok (.aload_n 0, 1) := by decide +kernel
theorem d_M_reaches_112 : decode b_M_reaches 112 = .ok (.getfield 47, 3) := by decide +kernel
theorem d_M_reaches_115 : decode b_M_reaches 115 = .ok (.iconst 4, 1) := by decide +kernel
theorem d_M_reaches_116 : decode b_M_reaches 116 = .ok (.iload_n 2, 1) := by decide +kernel
theorem d_M_reaches_117 : decode b_M_reaches 117 = .ok (.imul, 1) := by decide +kernel
theorem d_M_reaches_118 : decode b_M_reaches 118 = .ok (.iload_n 1, 1) := by decide +kernel
theorem d_M_reaches_119 : decode b_M_reaches 119 = .ok (.iadd, 1) := by decide +kernel
theorem d_M_reaches_120 : decode b_M_reaches 120 = .ok (.baload, 1) := by decide +kernel
theorem d_M_reaches_121 : decode b_M_reaches 121 = .ok (.ifCond .eq 20, 3) := by decide +kernel
theorem d_M_reaches_124 : decode b_M_reaches 124 = .ok (.aload_n 0, 1) := by decide +kernel
theorem d_M_reaches_125 : decode b_M_reaches 125 = .ok (.getfield 47, 3) := by decide +kernel
theorem d_M_reaches_128 : decode b_M_reaches 128 = .ok (.iconst 4, 1) := by decide +kernel
theorem d_M_reaches_129 : decode b_M_reaches 129 = .ok (.iload_n 1, 1) := by decide +kernel
theorem d_M_reaches_130 : decode b_M_reaches 130 = .ok (.imul, 1) := by decide +kernel
theorem d_M_reaches_131 : decode b_M_reaches 131 = .ok (.iload_n 3, 1) := by decide +kernel
theorem d_M_reaches_132 : decode b_M_reaches 132 = .ok (.iadd, 1) := by decide +kernel
theorem d_M_reaches_133 : decode b_M_reaches 133 = .ok (.baload, 1) := by decide +kernel
theorem d_M_reaches_134 : decode b_M_reaches 134 = .ok (.ifCond .eq 7, 3) := by decide +kernel
theorem d_M_reaches_137 : decode b_M_reaches 137 = .ok (.iconst 1, 1) := by decide +kernel
theorem d_M_reaches_138 : decode b_M_reaches 138 = .ok (.goto 4, 3) := by decide +kernel
theorem d_M_reaches_141 : decode b_M_reaches 141 = .ok (.iconst 0, 1) := by decide +kernel
theorem d_M_reaches_142 : decode b_M_reaches 142 = .ok (.bastore, 1) := by decide +kernel
theorem d_M_reaches_143 : decode b_M_reaches 143 = .ok (.iinc 3 1, 3) := by decide +kernel
theorem d_M_reaches_146 : decode b_M_reaches 146 = .ok (.goto (-62), 3) := by decide +kernel
theorem d_M_reaches_149 : decode b_M_reaches 149 = .ok (.iinc 2 1, 3) := by decide +kernel
theorem d_M_reaches_152 : decode b_M_reaches 152 = .ok (.goto (-75), 3) := by decide +kernel
theorem d_M_reaches_155 : decode b_M_reaches 155 = .ok (.iinc 1 1, 3) := by decide +kernel
theorem d_M_reaches_158 : decode b_M_reaches 158 = .ok (.goto (-88), 3) := by decide +kernel
theorem d_M_reaches_161 : decode b_M_reaches 161 = .ok (.return_, 1) := by decide +kernel
end
section
section RW
variable {own : String} {p : Program} {l : Launch} {e : Env} {R : Room} {s : State} {m : MethodId} {args : Array Value} {below : List Frame} {meth : Method} {c : Code} {Q : State → Prop} {X : wX} {nL : Nat} {L : List (Nat × Value)} {σ : sg} {pc : Nat} {st : List Value} {cc : ByteArray}
theorem bic_9 : (Int8.ofInt (9)).toInt32 = nI 9 := by decide
theorem i_M_96i (F : fx_ p s m args c cc nL R_M X) {v0 v1 : Value} {rest : List Value} {d : Nat} {z : Int32} {τ : sg} (hM : mt_ l X y_M_brought w_M_brought d [.ref (adr X 28), v0, v1] σ (ei_ z τ)) (hR : d + 1 ≤ R.frames ∧ 8 + (5 + 11) + 30 * d ≤ R.locals) (hw : (rest.map fun v => v.category).sum ≤ 8) (hd : decode cc pc = .ok (.invokevirtual 96, 3)) (k : vv_ p l e R s m args below meth c Q X nL L τ (pc + 3) (.int z :: rest)) : vv_ p l e R s m args below meth c Q X nL L σ pc (v1 :: v0 :: .ref (adr X 28) :: rest) :=
  qv_callV F (maxL := 5) (ret := (some .int)) (n := 2) (as := [v0, v1]) (rest := rest) 28 rfl rfl (by decide +kernel) (by decide +kernel) (by decide +kernel) (by decide +kernel) (by decide +kernel) (by decide +kernel) hM rfl hR hw hd (fun r τ' hp => by obtain ⟨rfl, rfl⟩ := hp; exact k)
end RW
end
section
/-! the reference: reaches, count, fitting -/
set_option maxRecDepth 100000 in
set_option maxHeartbeats 4000000 in
theorem c_M_reaches (l : Launch) (X : wX) (σ : sg) (hn : σ 28 7 ≤ 8) (h11 : ∀ k, σ 35 k < 4) (h12 : ∀ k, σ 36 k < 4) : mt_ l X y_M_reaches w_M_reaches 0 [.ref (adr X 28)] σ (ev_ (ua σ 41 (rch_ (cr_ (mo_ σ) (σ 28 7))))) := by
  refine mt_of (own := R_M) rfl pl_M (Nat.le_of_ble_eq_true rfl) ?_
  intro zp ze zs zm za zb zt zc F hr hlk
  refine qv_sub (L' := [(0, _)]) [0] rfl ?_
  refine qv_iconst F (nI 0) d_M_reaches_0 ic_0 ?_
  refine qv_istore_n (L' := [(1, _), (0, _)]) F d_M_reaches_1 (by decide) rfl ?_
  have lp := lu_up (fun k (g : Nat → Nat) => vv_ zp l ze (rr_ 0) zs zm za zb zt zc (MQ zb (mq_ X (ev_ (ua σ 41 (rch_ (cr_ (mo_ σ) (σ 28 7)))))) za zs 0 0 (aw_ X)) X 4 [(1, .int (nI k)), (0, .ref (adr X 28))] (ua σ 41 g) 2 []) (fun k g => ∀ i, i < k → g i = (decide (i % 5 = 0)).toNat) 16 ?_ ?_ 0 (σ 41) (Nat.zero_le _) (fun i hi => by omega)
  · exact qv_st (ua_id σ 41).symm lp
  · intro g hg
    refine qv_iload_n F d_M_reaches_2 0 rfl ?_
    refine qv_bipush F (nI 16) d_M_reaches_3 bic_16 ?_
    refine qv_icmpge F d_M_reaches_5 rfl (by decide) (by decide) (fun hb => ?_) (fun hb => ?_)
    ·
      refine qv_iconst F (nI 0) d_M_reaches_31 ic_0 ?_
      refine qv_istore_n (L' := [(1, _), (0, _)]) F d_M_reaches_32 (by decide) rfl ?_
      have lp2 := lu_up (fun i (g : Nat → Nat) => vv_ zp l ze (rr_ 0) zs zm za zb zt zc (MQ zb (mq_ X (ev_ (ua σ 41 (rch_ (cr_ (mo_ σ) (σ 28 7)))))) za zs 0 0 (aw_ X)) X 4 [(1, .int (nI i)), (0, .ref (adr X 28))] (ua σ 41 g) 33 []) (fun i g => ∀ a b, a < 4 → b < 4 → g (4 * a + b) = (rx_ (c0_ (mo_ σ) i) a b).toNat) (σ 28 7) ?_ ?_ 0 g (Nat.zero_le _) ?_
      · exact lp2
      · intro g hg
        refine qv_iload_n F d_M_reaches_33 0 rfl ?_
        refine qv_aload_n F d_M_reaches_34 1 rfl ?_
        refine g_M_86 F d_M_reaches_35 ?_
        refine qv_icmpge F d_M_reaches_38 rfl (show σ 28 7 < 2 ^ 31 by omega) (show σ 28 7 < 2 ^ 31 by omega) (fun hb => ?_) (fun hb => ?_)
        ·
          refine qv_iconst F (nI 0) d_M_reaches_68 ic_0 ?_
          refine qv_istore_n (L' := [(1, _), (0, _)]) F d_M_reaches_69 (by decide) rfl ?_
          have lp3 := lu_up (fun mm (g : Nat → Nat) => vv_ zp l ze (rr_ 0) zs zm za zb zt zc (MQ zb (mq_ X (ev_ (ua σ 41 (rch_ (cr_ (mo_ σ) (σ 28 7)))))) za zs 0 0 (aw_ X)) X 4 [(1, .int (nI mm)), (0, .ref (adr X 28))] (ua σ 41 g) 70 []) (fun mm g => ∀ a b, a < 4 → b < 4 → g (4 * a + b) = (rx_ (ww_ (c0_ (mo_ σ) (σ 28 7)) mm) a b).toNat) 4 ?_ ?_ 0 g (Nat.zero_le _) hg
          · exact lp3
          · intro g hg
            refine qv_iload_n F d_M_reaches_70 0 rfl ?_
            refine qv_iconst F (nI 4) d_M_reaches_71 ic_4 ?_
            refine qv_icmpge F d_M_reaches_72 rfl (by decide) (by decide) (fun hb => ?_) (fun hb => ?_)
            ·
              refine qv_ext 41 (z := true) (n := 16) (g := rch_ (cr_ (mo_ σ) (σ 28 7))) rfl (t16 (fun a b ha hb => ?_)) ?_
              · show rch_ (cr_ (mo_ σ) (σ 28 7)) (4 * a + b) = g (4 * a + b)
                rw [rch_at _ hb, hg a b ha hb]
                congr 1
                exact rx_cg (fun a b hb => cr_is hb) hb
              ·
                exact qv_ret F hr hlk d_M_reaches_161 (ev_of (ua_ua σ 41 g _))
            ·
              exact absurd hb (by decide)
          · intro mm g hm hg ih
            have hw : ∀ a b, ww_ (c0_ (mo_ σ) (σ 28 7)) (mm + 1) a b = w1_ mm (ww_ (c0_ (mo_ σ) (σ 28 7)) mm) a b := fun _ _ => rfl
            have hw2 : ww_ (c0_ (mo_ σ) (σ 28 7)) (mm + 1) = w1_ mm (ww_ (c0_ (mo_ σ) (σ 28 7)) mm) := rfl
            rw [hw2] at ih
            generalize ww_ (c0_ (mo_ σ) (σ 28 7)) mm = C at hg ih
            refine qv_iload_n F d_M_reaches_70 0 rfl ?_
            refine qv_iconst F (nI 4) d_M_reaches_71 ic_4 ?_
            refine qv_icmpge F d_M_reaches_72 rfl (by omega) (by omega) (fun hb => ?_) (fun hb => ?_)
            ·
              omega
            ·
              refine qv_iconst F (nI 0) d_M_reaches_75 ic_0 ?_
              refine qv_istore_n (L' := [(2, _), (1, _), (0, _)]) F d_M_reaches_76 (by decide) rfl ?_
              have lpa := lu_up (fun a (g : Nat → Nat) => vv_ zp l ze (rr_ 0) zs zm za zb zt zc (MQ zb (mq_ X (ev_ (ua σ 41 (rch_ (cr_ (mo_ σ) (σ 28 7)))))) za zs 0 0 (aw_ X)) X 4 [(2, .int (nI a)), (1, .int (nI mm)), (0, .ref (adr X 28))] (ua σ 41 g) 77 []) (fun a g => tb2_ C (w1_ mm C) a 0 g) 4 ?_ ?_ 0 g (Nat.zero_le _) (tb2_0 hg)
              · exact lpa
              · intro g hg
                refine qv_iload_n F d_M_reaches_77 0 rfl ?_
                refine qv_iconst F (nI 4) d_M_reaches_78 ic_4 ?_
                refine qv_icmpge F d_M_reaches_79 rfl (by decide) (by decide) (fun hb => ?_) (fun hb => ?_)
                ·
                  refine qv_sub (L' := [(1, _), (0, _)]) [1, 2] rfl ?_
                  refine qv_iinc (L' := [(1, _), (0, _)]) F _ d_M_reaches_155 0 rfl (ii_1 _) (by decide) rfl ?_
                  refine qv_goto F d_M_reaches_158 rfl ?_
                  exact ih g (tb2_end hg)
                ·
                  exact absurd hb (by decide)
              · intro a g ha hg iha
                refine qv_iload_n F d_M_reaches_77 0 rfl ?_
                refine qv_iconst F (nI 4) d_M_reaches_78 ic_4 ?_
                refine qv_icmpge F d_M_reaches_79 rfl (by omega) (by omega) (fun hb => ?_) (fun hb => ?_)
                ·
                  omega
                ·
                  refine qv_iconst F (nI 0) d_M_reaches_82 ic_0 ?_
                  refine qv_istore_n (L' := [(3, _), (2, _), (1, _), (0, _)]) F d_M_reaches_83 (by decide) rfl ?_
                  have lpb := lu_up (fun b (g : Nat → Nat) => vv_ zp l ze (rr_ 0) zs zm za zb zt zc (MQ zb (mq_ X (ev_ (ua σ 41 (rch_ (cr_ (mo_ σ) (σ 28 7)))))) za zs 0 0 (aw_ X)) X 4 [(3, .int (nI b)), (2, .int (nI a)), (1, .int (nI mm)), (0, .ref (adr X 28))] (ua σ 41 g) 84 []) (fun b g => tb2_ C (w1_ mm C) a b g) 4 ?_ ?_ 0 g (Nat.zero_le _) hg
                  · exact lpb
                  · intro g hg
                    refine qv_iload_n F d_M_reaches_84 0 rfl ?_
                    refine qv_iconst F (nI 4) d_M_reaches_85 ic_4 ?_
                    refine qv_icmpge F d_M_reaches_86 rfl (by decide) (by decide) (fun hb => ?_) (fun hb => ?_)
                    ·
                      refine qv_sub (L' := [(2, _), (1, _), (0, _)]) [1, 2, 3] rfl ?_
                      refine qv_iinc (L' := [(2, _), (1, _), (0, _)]) F _ d_M_reaches_149 0 rfl (ii_1 _) (by decide) rfl ?_
                      refine qv_goto F d_M_reaches_152 rfl ?_
                      exact iha g (tb2_next hg)
                    ·
                      exact absurd hb (by decide)
                  · intro b g hb4 hg ihb
                    have v1 := tb2_here hg ha hb4
                    have v2 := tb2_col hg ha hm
                    have v3 := tb2_row hg hb4 hm
                    have e0 := rx_step mm C a b
                    refine qv_iload_n F d_M_reaches_84 0 rfl ?_
                    refine qv_iconst F (nI 4) d_M_reaches_85 ic_4 ?_
                    refine qv_icmpge F d_M_reaches_86 rfl (by omega) (by omega) (fun hb => ?_) (fun hb => ?_)
                    ·
                      omega
                    ·
                      refine qv_aload_n F d_M_reaches_89 3 rfl ?_
                      refine g_M_47 F d_M_reaches_90 ?_
                      refine qv_iconst F (nI 4) d_M_reaches_93 ic_4 ?_
                      refine qv_iload_n F d_M_reaches_94 1 rfl ?_
                      refine qv_imul F d_M_reaches_95 ?_
                      refine qv_iload_n F d_M_reaches_96 0 rfl ?_
                      refine qv_iadd F d_M_reaches_97 ?_
                      refine qv_aload_n F d_M_reaches_98 3 rfl ?_
                      refine g_M_47 F d_M_reaches_99 ?_
                      refine qv_iconst F (nI 4) d_M_reaches_102 ic_4 ?_
                      refine qv_iload_n F d_M_reaches_103 1 rfl ?_
                      refine qv_imul F d_M_reaches_104 ?_
                      refine qv_iload_n F d_M_reaches_105 0 rfl ?_
                      refine qv_iadd F d_M_reaches_106 ?_
                      refine ld_41 F (show 4 * a + b < 16 by omega) d_M_reaches_107 ?_
                      refine qv_stk (st' := .int (nI (rx_ C a b).toNat) :: _) (by rw [← v1]; rfl) ?_
                      refine qv_ifneB F d_M_reaches_108 rfl (fun hb => ?_) (fun hb => ?_)
                      ·
                        refine qv_iconst F (nI 1) d_M_reaches_137 ic_1 ?_
                        refine qv_goto F d_M_reaches_138 rfl ?_
                        refine sv_41 F (show 4 * a + b < 16 by omega) (Or.inr rfl) d_M_reaches_142 ?_
                        refine qv_st (us_ua σ 41 g (4 * a + b) 1) ?_
                        refine qv_iinc (L' := [(3, _), (2, _), (1, _), (0, _)]) F _ d_M_reaches_143 0 rfl (ii_1 _) (by decide) rfl ?_
                        refine qv_goto F d_M_reaches_146 rfl ?_
                        exact ihb _ (tb2_up hg hb4 (by rw [← e0, hb]; rfl))
                      ·
                        have h1 := hb
                        refine qv_aload_n F d_M_reaches_111 3 rfl ?_
                        refine g_M_47 F d_M_reaches_112 ?_
                        refine qv_iconst F (nI 4) d_M_reaches_115 ic_4 ?_
                        refine qv_iload_n F d_M_reaches_116 1 rfl ?_
                        refine qv_imul F d_M_reaches_117 ?_
                        refine qv_iload_n F d_M_reaches_118 2 rfl ?_
                        refine qv_iadd F d_M_reaches_119 ?_
                        refine ld_41 F (show 4 * a + mm < 16 by omega) d_M_reaches_120 ?_
                        refine qv_stk (st' := .int (nI (rx_ C a mm).toNat) :: _) (by rw [← v2]; rfl) ?_
                        refine qv_ifeqB F d_M_reaches_121 rfl (fun hb => ?_) (fun hb => ?_)
                        ·
                          refine qv_iconst F (nI 0) d_M_reaches_141 ic_0 ?_
                          refine sv_41 F (show 4 * a + b < 16 by omega) (Or.inl rfl) d_M_reaches_142 ?_
                          refine qv_st (us_ua σ 41 g (4 * a + b) 0) ?_
                          refine qv_iinc (L' := [(3, _), (2, _), (1, _), (0, _)]) F _ d_M_reaches_143 0 rfl (ii_1 _) (by decide) rfl ?_
                          refine qv_goto F d_M_reaches_146 rfl ?_
                          exact ihb _ (tb2_up hg hb4 (by rw [← e0, h1, hb]; rfl))
                        ·
                          have h2 := hb
                          refine qv_aload_n F d_M_reaches_124 3 rfl ?_
                          refine g_M_47 F d_M_reaches_125 ?_
                          refine qv_iconst F (nI 4) d_M_reaches_128 ic_4 ?_
                          refine qv_iload_n F d_M_reaches_129 2 rfl ?_
                          refine qv_imul F d_M_reaches_130 ?_
                          refine qv_iload_n F d_M_reaches_131 0 rfl ?_
                          refine qv_iadd F d_M_reaches_132 ?_
                          refine ld_41 F (show 4 * mm + b < 16 by omega) d_M_reaches_133 ?_
                          refine qv_stk (st' := .int (nI (rx_ C mm b).toNat) :: _) (by rw [← v3]; rfl) ?_
                          refine qv_ifeqB F d_M_reaches_134 rfl (fun hb => ?_) (fun hb => ?_)
                          ·
                            refine qv_iconst F (nI 0) d_M_reaches_141 ic_0 ?_
                            refine sv_41 F (show 4 * a + b < 16 by omega) (Or.inl rfl) d_M_reaches_142 ?_
                            refine qv_st (us_ua σ 41 g (4 * a + b) 0) ?_
                            refine qv_iinc (L' := [(3, _), (2, _), (1, _), (0, _)]) F _ d_M_reaches_143 0 rfl (ii_1 _) (by decide) rfl ?_
                            refine qv_goto F d_M_reaches_146 rfl ?_
                            exact ihb _ (tb2_up hg hb4 (by rw [← e0, h1, h2, hb]; rfl))
                          ·
                            refine qv_iconst F (nI 1) d_M_reaches_137 ic_1 ?_
                            refine qv_goto F d_M_reaches_138 rfl ?_
                            refine sv_41 F (show 4 * a + b < 16 by omega) (Or.inr rfl) d_M_reaches_142 ?_
                            refine qv_st (us_ua σ 41 g (4 * a + b) 1) ?_
                            refine qv_iinc (L' := [(3, _), (2, _), (1, _), (0, _)]) F _ d_M_reaches_143 0 rfl (ii_1 _) (by decide) rfl ?_
                            refine qv_goto F d_M_reaches_146 rfl ?_
                            exact ihb _ (tb2_up hg hb4 (by rw [← e0, h1, h2, hb]; rfl))
        ·
          exact absurd (show σ 28 7 < σ 28 7 from hb) (by omega)
      · intro i g hi hg ih
        have q11 := h11 i
        have q12 := h12 i
        refine qv_iload_n F d_M_reaches_33 0 rfl ?_
        refine qv_aload_n F d_M_reaches_34 1 rfl ?_
        refine g_M_86 F d_M_reaches_35 ?_
        refine qv_icmpge F d_M_reaches_38 rfl (by omega) (show σ 28 7 < 2 ^ 31 by omega) (fun hb => ?_) (fun hb => ?_)
        ·
          exact absurd (show σ 28 7 ≤ i from hb) (by omega)
        ·
          refine qv_aload_n F d_M_reaches_41 1 rfl ?_
          refine g_M_47 F d_M_reaches_42 ?_
          refine qv_iconst F (nI 4) d_M_reaches_45 ic_4 ?_
          refine qv_aload_n F d_M_reaches_46 1 rfl ?_
          refine g_M_28 F d_M_reaches_47 ?_
          refine qv_iload_n F d_M_reaches_50 0 rfl ?_
          refine ld_35 F (show i < 8 by omega) d_M_reaches_51 ?_
          refine qv_imul F d_M_reaches_52 ?_
          refine qv_aload_n F d_M_reaches_53 1 rfl ?_
          refine g_M_31 F d_M_reaches_54 ?_
          refine qv_iload_n F d_M_reaches_57 0 rfl ?_
          refine ld_36 F (show i < 8 by omega) d_M_reaches_58 ?_
          refine qv_iadd F d_M_reaches_59 ?_
          refine qv_iconst F (nI 1) d_M_reaches_60 ic_1 ?_
          refine sv_41 F (show 4 * σ 35 i + σ 36 i < 16 by omega) (Or.inr rfl) d_M_reaches_61 ?_
          refine qv_st (us_ua σ 41 g (4 * σ 35 i + σ 36 i) 1) ?_
          refine qv_iinc (L' := [(1, _), (0, _)]) F _ d_M_reaches_62 0 rfl (ii_1 _) (by decide) rfl ?_
          refine qv_goto F d_M_reaches_65 rfl ?_
          refine ih _ (fun a b ha hb => ?_)
          rw [rx_c0]
          by_cases e : 4 * a + b = 4 * σ 35 i + σ 36 i
          · obtain ⟨rfl, rfl⟩ : a = σ 35 i ∧ b = σ 36 i := by omega
            rw [up_eq]
            show 1 = (rx_ (c0_ (mo_ σ) i) (σ 35 i) (σ 36 i) || (σ 35 i == σ 35 i && σ 36 i == σ 36 i)).toNat
            rw [beq_self_eq_true, beq_self_eq_true]
            simp
          · rw [up_ne e, hg a b ha hb]
            have e2 : (mo_ σ 11 i == a && mo_ σ 12 i == b) = false := by
              rw [← Bool.not_eq_true, Bool.and_eq_true, beq_iff_eq, beq_iff_eq]
              intro z
              have z1 : σ 35 i = a := z.1
              have z2 : σ 36 i = b := z.2
              omega
            rw [e2, Bool.or_false]
      · intro a b ha hb
        rw [hg (4 * a + b) (by omega)]
        show _ = (a == b || false).toNat
        rw [Bool.or_false]
        by_cases e : a = b
        · rw [decide_eq_true (by omega), beq_iff_eq.mpr e]
        · have e2 : (a == b) = false := by rw [← Bool.not_eq_true, beq_iff_eq]; exact e
          rw [decide_eq_false (by omega), e2]
    ·
      exact absurd hb (by decide)
  · intro k g hk hg ih
    refine qv_iload_n F d_M_reaches_2 0 rfl ?_
    refine qv_bipush F (nI 16) d_M_reaches_3 bic_16 ?_
    refine qv_icmpge F d_M_reaches_5 rfl (by omega) (by omega) (fun hb => ?_) (fun hb => ?_)
    ·
      omega
    ·
      refine qv_aload_n F d_M_reaches_8 1 rfl ?_
      refine g_M_47 F d_M_reaches_9 ?_
      refine qv_iload_n F d_M_reaches_12 0 rfl ?_
      refine qv_iload_n F d_M_reaches_13 0 rfl ?_
      refine qv_iconst F (nI 5) d_M_reaches_14 ic_5 ?_
      refine qv_irem F d_M_reaches_15 (by omega) (by decide) (by decide) ?_
      refine qv_ifne F d_M_reaches_16 rfl (by omega) (fun hb => ?_) (fun hb => ?_)
      ·
        refine qv_iconst F (nI 0) d_M_reaches_23 ic_0 ?_
        refine sv_41 F hk (Or.inl rfl) d_M_reaches_24 ?_
        refine qv_st (us_ua σ 41 g k 0) ?_
        refine qv_iinc (L' := [(1, _), (0, _)]) F _ d_M_reaches_25 0 rfl (ii_1 _) (by decide) rfl ?_
        refine qv_goto F d_M_reaches_28 rfl ?_
        refine ih _ (fun i hi => ?_)
        by_cases e : i = k
        · subst e; rw [up_eq, decide_eq_false hb]; rfl
        · rw [up_ne e]; exact hg i (by omega)
      ·
        refine qv_iconst F (nI 1) d_M_reaches_19 ic_1 ?_
        refine qv_goto F d_M_reaches_20 rfl ?_
        refine sv_41 F hk (Or.inr rfl) d_M_reaches_24 ?_
        refine qv_st (us_ua σ 41 g k 1) ?_
        refine qv_iinc (L' := [(1, _), (0, _)]) F _ d_M_reaches_25 0 rfl (ii_1 _) (by decide) rfl ?_
        refine qv_goto F d_M_reaches_28 rfl ?_
        refine ih _ (fun i hi => ?_)
        by_cases e : i = k
        · subst e; rw [up_eq, decide_eq_true hb]; rfl
        · rw [up_ne e]; exact hg i (by omega)
set_option maxRecDepth 100000 in
set_option maxHeartbeats 4000000 in
theorem c_M_count (l : Launch) (X : wX) (σ : sg) (hn : σ 28 7 ≤ 8) (C : rl_) (h11 : ∀ k, σ 35 k < 4) (h12 : ∀ k, σ 36 k < 4) (h41 : σ 41 = rch_ C) : mt_ l X y_M_count w_M_count 3 [.ref (adr X 28)] σ (ei_ (nI (gd_ (S5_ (mo_ σ) C (σ 28 7))).toNat) (ua σ 42 (S5_ (mo_ σ) C (σ 28 7)))) := by
  refine mt_of (own := R_M) rfl pl_M (Nat.le_of_ble_eq_true rfl) ?_
  intro zp ze zs zm za zb zt zc F hr hlk
  refine qv_sub (L' := [(0, _)]) [0] rfl ?_
  refine qv_iconst F (nI 1) d_M_count_0 ic_1 ?_
  refine qv_istore_n (L' := [(1, _), (0, _)]) F d_M_count_1 (by decide) rfl ?_
  refine qv_iconst F (nI 0) d_M_count_2 ic_0 ?_
  refine qv_istore_n (L' := [(2, _), (1, _), (0, _)]) F d_M_count_3 (by decide) rfl ?_
  have lp := lu_up (fun k (g : Nat → Nat) => vv_ zp l ze (rr_ 3) zs zm za zb zt zc (MQ zb (mq_ X (ei_ (nI (gd_ (S5_ (mo_ σ) C (σ 28 7))).toNat) (ua σ 42 (S5_ (mo_ σ) C (σ 28 7))))) za zs 0 0 (aw_ X)) X 5 [(2, .int (nI k)), (1, .int (nI 1)), (0, .ref (adr X 28))] (ua σ 42 g) 4 []) (fun k g => ∀ i, i < k → g i = 1) 4 ?_ ?_ 0 (σ 42) (Nat.zero_le _) (fun i hi => by omega)
  · exact qv_st (ua_id σ 42).symm lp
  · intro g hg
    refine qv_ext 42 (z := false) (n := 4) (g := fun _ => 1) rfl (fun k hk => by rw [ua_eq]; exact (hg k hk).symm) ?_
    rw [ua_ua]
    refine qv_iload_n F d_M_count_4 0 rfl ?_
    refine qv_iconst F (nI 4) d_M_count_5 ic_4 ?_
    refine qv_icmpge F d_M_count_6 rfl (by decide) (by decide) (fun hb => ?_) (fun hb => ?_)
    ·
      refine qv_iconst F (nI 0) d_M_count_22 ic_0 ?_
      refine qv_istore_n (L' := [(2, _), (1, _), (0, _)]) F d_M_count_23 (by decide) rfl ?_
      have lpr := lu_up (fun r (_ : Unit) => vv_ zp l ze (rr_ 3) zs zm za zb zt zc (MQ zb (mq_ X (ei_ (nI (gd_ (S5_ (mo_ σ) C (σ 28 7))).toNat) (ua σ 42 (S5_ (mo_ σ) C (σ 28 7))))) za zs 0 0 (aw_ X)) X 5 [(2, .int (nI r)), (1, .int (nI 1)), (0, .ref (adr X 28))] (ua σ 42 (sn_ (f2_ (mo_ σ) C (σ 28 7)) (fun _ => 1) r)) 24 []) (fun _ _ => True) 5 ?_ ?_ 0 () (Nat.zero_le _) trivial
      · exact lpr
      · intro _ _
        refine qv_iload_n F d_M_count_24 0 rfl ?_
        refine qv_iconst F (nI 5) d_M_count_25 ic_5 ?_
        refine qv_icmpge F d_M_count_26 rfl (by decide) (by decide) (fun hb => ?_) (fun hb => ?_)
        ·
          refine qv_iconst F (nI 0) d_M_count_88 ic_0 ?_
          refine qv_istore_n (L' := [(2, _), (1, _), (0, _)]) F d_M_count_89 (by decide) rfl ?_
          have lpg := lu_up (fun k (b : Bool) => vv_ zp l ze (rr_ 3) zs zm za zb zt zc (MQ zb (mq_ X (ei_ (nI (gd_ (S5_ (mo_ σ) C (σ 28 7))).toNat) (ua σ 42 (S5_ (mo_ σ) C (σ 28 7))))) za zs 0 0 (aw_ X)) X 5 [(2, .int (nI k)), (1, .int (nI b.toNat)), (0, .ref (adr X 28))] (ua σ 42 (S5_ (mo_ σ) C (σ 28 7))) 90 []) (fun k b => b = true ↔ ∀ i, i < k → S5_ (mo_ σ) C (σ 28 7) i ≤ 8) 4 ?_ ?_ 0 true (Nat.zero_le _) ⟨fun _ i hi => by omega, fun _ => rfl⟩
          · exact lpg
          · intro b hb4
            have eb : b = gd_ (S5_ (mo_ σ) C (σ 28 7)) := by
              rw [Bool.eq_iff_iff, hb4]
              exact ⟨fun h => gd_t h, fun h => gd_of h⟩
            subst eb
            refine qv_iload_n F d_M_count_90 0 rfl ?_
            refine qv_iconst F (nI 4) d_M_count_91 ic_4 ?_
            refine qv_icmpge F d_M_count_92 rfl (by decide) (by decide) (fun hb => ?_) (fun hb => ?_)
            ·
              refine qv_iload_n F d_M_count_122 1 rfl ?_
              exact qv_zret F hr hlk (by first | exact Or.inl rfl | exact Or.inr rfl | exact bz_01 _) d_M_count_123 (ei_of rfl rfl)
            ·
              exact absurd hb (by decide)
          · intro k b hk hI ih
            have v9 := sn_9 (t := mo_ σ) (C := C) (nc := σ 28 7) 5 k
            have v9 : S5_ (mo_ σ) C (σ 28 7) k ≤ 9 := v9
            refine qv_iload_n F d_M_count_90 0 rfl ?_
            refine qv_iconst F (nI 4) d_M_count_91 ic_4 ?_
            refine qv_icmpge F d_M_count_92 rfl (by omega) (by omega) (fun hb => ?_) (fun hb => ?_)
            ·
              omega
            ·
              refine qv_iload_n F d_M_count_95 1 rfl ?_
              refine qv_ifeqB F d_M_count_96 rfl (fun hb => ?_) (fun hb => ?_)
              ·
                refine qv_iconst F (nI 0) d_M_count_114 ic_0 ?_
                refine qv_istore_n (L' := [(1, _), (2, _), (0, _)]) F d_M_count_115 (by decide) rfl ?_
                refine qv_sub (L' := [(2, _), (1, _), (0, _)]) [1, 0, 2] rfl ?_
                refine qv_iinc (L' := [(2, _), (1, _), (0, _)]) F _ d_M_count_116 0 rfl (ii_1 _) (by decide) rfl ?_
                refine qv_goto F d_M_count_119 rfl ?_
                refine ih false ⟨fun z => (by cases z), fun z => ?_⟩
                rw [← hb, hI]
                exact fun i hi => z i (by omega)
              ·
                have h1 := hI.mp hb
                refine qv_aload_n F d_M_count_99 2 rfl ?_
                refine g_M_50 F d_M_count_100 ?_
                refine qv_iload_n F d_M_count_103 0 rfl ?_
                refine ld_42 F hk d_M_count_104 ?_
                refine qv_bipush F (nI 8) d_M_count_105 bic_8 ?_
                refine qv_icmpgt F d_M_count_107 rfl (show S5_ (mo_ σ) C (σ 28 7) k < 2 ^ 31 by omega) (by omega) (fun hb => ?_) (fun hb => ?_)
                ·
                  have hb : 8 < S5_ (mo_ σ) C (σ 28 7) k := hb
                  refine qv_iconst F (nI 0) d_M_count_114 ic_0 ?_
                  refine qv_istore_n (L' := [(1, _), (2, _), (0, _)]) F d_M_count_115 (by decide) rfl ?_
                  refine qv_sub (L' := [(2, _), (1, _), (0, _)]) [1, 0, 2] rfl ?_
                  refine qv_iinc (L' := [(2, _), (1, _), (0, _)]) F _ d_M_count_116 0 rfl (ii_1 _) (by decide) rfl ?_
                  refine qv_goto F d_M_count_119 rfl ?_
                  refine ih false ⟨fun z => (by cases z), fun z => ?_⟩
                  have := z k (by omega)
                  omega
                ·
                  have hb : S5_ (mo_ σ) C (σ 28 7) k ≤ 8 := hb
                  refine qv_iconst F (nI 1) d_M_count_110 ic_1 ?_
                  refine qv_goto F d_M_count_111 rfl ?_
                  refine qv_istore_n (L' := [(1, _), (2, _), (0, _)]) F d_M_count_115 (by decide) rfl ?_
                  refine qv_sub (L' := [(2, _), (1, _), (0, _)]) [1, 0, 2] rfl ?_
                  refine qv_iinc (L' := [(2, _), (1, _), (0, _)]) F _ d_M_count_116 0 rfl (ii_1 _) (by decide) rfl ?_
                  refine qv_goto F d_M_count_119 rfl ?_
                  refine ih true ⟨fun _ i hi => ?_, fun _ => rfl⟩
                  by_cases e : i = k
                  · subst e; exact hb
                  · exact h1 i (by omega)
        ·
          exact absurd hb (by decide)
      · intro r _ hr5 _ ih
        have ih := ih () trivial
        have hB := sn_9 (t := mo_ σ) (C := C) (nc := σ 28 7) r
        refine qv_iload_n F d_M_count_24 0 rfl ?_
        refine qv_iconst F (nI 5) d_M_count_25 ic_5 ?_
        refine qv_icmpge F d_M_count_26 rfl (by omega) (by omega) (fun hb => ?_) (fun hb => ?_)
        ·
          omega
        ·
          refine qv_iconst F (nI 0) d_M_count_29 ic_0 ?_
          refine qv_istore_n (L' := [(3, _), (2, _), (1, _), (0, _)]) F d_M_count_30 (by decide) rfl ?_
          have lp2 := lu_up (fun k (_ : Unit) => vv_ zp l ze (rr_ 3) zs zm za zb zt zc (MQ zb (mq_ X (ei_ (nI (gd_ (S5_ (mo_ σ) C (σ 28 7))).toNat) (ua σ 42 (S5_ (mo_ σ) C (σ 28 7))))) za zs 0 0 (aw_ X)) X 5 [(3, .int (nI k)), (2, .int (nI r)), (1, .int (nI 1)), (0, .ref (adr X 28))] (ua σ 42 (sw_ (f2_ (mo_ σ) C (σ 28 7)) (sn_ (f2_ (mo_ σ) C (σ 28 7)) (fun _ => 1) r) k)) 31 []) (fun _ _ => True) 4 ?_ ?_ 0 () (Nat.zero_le _) trivial
          · exact lp2
          · intro _ _
            refine qv_iload_n F d_M_count_31 0 rfl ?_
            refine qv_iconst F (nI 4) d_M_count_32 ic_4 ?_
            refine qv_icmpge F d_M_count_33 rfl (by decide) (by decide) (fun hb => ?_) (fun hb => ?_)
            ·
              refine qv_sub (L' := [(2, _), (1, _), (0, _)]) [1, 2, 3] rfl ?_
              refine qv_iinc (L' := [(2, _), (1, _), (0, _)]) F _ d_M_count_82 0 rfl (ii_1 _) (by decide) rfl ?_
              refine qv_goto F d_M_count_85 rfl ?_
              exact ih
            ·
              exact absurd hb (by decide)
          · intro k _ hk _ ih2
            have ih2 := ih2 () trivial
            have hB2 := sw_9 (t := mo_ σ) (C := C) (nc := σ 28 7) hB k
            have e1 : sw_ (f2_ (mo_ σ) C (σ 28 7)) (sn_ (f2_ (mo_ σ) C (σ 28 7)) (fun _ => 1) r) (k + 1) = va_up (sw_ (f2_ (mo_ σ) C (σ 28 7)) (sn_ (f2_ (mo_ σ) C (σ 28 7)) (fun _ => 1) r) k) k (f2_ (mo_ σ) C (σ 28 7) (sw_ (f2_ (mo_ σ) C (σ 28 7)) (sn_ (f2_ (mo_ σ) C (σ 28 7)) (fun _ => 1) r) k) k) := rfl
            rw [e1] at ih2
            generalize sw_ (f2_ (mo_ σ) C (σ 28 7)) (sn_ (f2_ (mo_ σ) C (σ 28 7)) (fun _ => 1) r) k = g at hB2 ih2 ⊢
            have hbr := br_72 (t := mo_ σ) (C := C) (m := k) hB2 hn
            have e2 : br_ (mo_ (ua σ 42 g)) C ((ua σ 42 g) 42) k (σ 28 7) = br_ (mo_ σ) C g k (σ 28 7) := by
              rw [br_cg (t := mo_ (ua σ 42 g)) (t' := mo_ σ) rfl rfl]
              rfl
            have e3 : ∀ x, x = f2_ (mo_ σ) C (σ 28 7) g k → us (ua σ 42 g) 42 k x = ua σ 42 (va_up g k (f2_ (mo_ σ) C (σ 28 7) g k)) := fun x hx => by rw [us_ua, hx]
            refine qv_iload_n F d_M_count_31 0 rfl ?_
            refine qv_iconst F (nI 4) d_M_count_32 ic_4 ?_
            refine qv_icmpge F d_M_count_33 rfl (by omega) (by omega) (fun hb => ?_) (fun hb => ?_)
            ·
              omega
            ·
              refine qv_aload_n F d_M_count_36 3 rfl ?_
              refine qv_iload_n F d_M_count_37 0 rfl ?_
              refine qv_aload_n F d_M_count_38 3 rfl ?_
              refine g_M_86 F d_M_count_39 ?_
              refine i_M_96i F (c_M_brought l X (ua σ 42 g) C k (σ 28 7) hn hk h11 h12 h41) (by decide) (Nat.le_of_ble_eq_true rfl) d_M_count_42 ?_
              rw [e2]
              have ef : f2_ (mo_ σ) C (σ 28 7) g k = cl9 (br_ (mo_ σ) C g k (σ 28 7)) := rfl
              generalize br_ (mo_ σ) C g k (σ 28 7) = y at hbr ef
              refine qv_istore (L' := [(4, _), (3, _), (2, _), (1, _), (0, _)]) F d_M_count_45 (by decide) rfl ?_
              refine qv_aload_n F d_M_count_47 4 rfl ?_
              refine g_M_50 F d_M_count_48 ?_
              refine qv_iload_n F d_M_count_51 1 rfl ?_
              refine qv_iload F d_M_count_52 0 rfl ?_
              refine qv_ifne F d_M_count_54 rfl (by omega) (fun hb => ?_) (fun hb => ?_)
              ·
                refine qv_iload F d_M_count_61 0 rfl ?_
                refine qv_bipush F (nI 9) d_M_count_63 bic_9 ?_
                refine qv_icmple F d_M_count_65 rfl (by omega) (by omega) (fun hb => ?_) (fun hb => ?_)
                ·
                  refine qv_iload F d_M_count_73 0 rfl ?_
                  refine sv_42 F hk d_M_count_75 ?_
                  refine qv_st (e3 y (by rw [ef]; unfold cl9; rw [if_neg (by omega), if_neg (by omega)])) ?_
                  refine qv_sub (L' := [(3, _), (2, _), (1, _), (0, _)]) [1, 2, 3, 4] rfl ?_
                  refine qv_iinc (L' := [(3, _), (2, _), (1, _), (0, _)]) F _ d_M_count_76 0 rfl (ii_1 _) (by decide) rfl ?_
                  refine qv_goto F d_M_count_79 rfl ?_
                  exact ih2
                ·
                  refine qv_bipush F (nI 9) d_M_count_68 bic_9 ?_
                  refine qv_goto F d_M_count_70 rfl ?_
                  refine sv_42 F hk d_M_count_75 ?_
                  refine qv_st (e3 9 (by rw [ef]; unfold cl9; rw [if_neg (by omega), if_pos (by omega)])) ?_
                  refine qv_sub (L' := [(3, _), (2, _), (1, _), (0, _)]) [1, 2, 3, 4] rfl ?_
                  refine qv_iinc (L' := [(3, _), (2, _), (1, _), (0, _)]) F _ d_M_count_76 0 rfl (ii_1 _) (by decide) rfl ?_
                  refine qv_goto F d_M_count_79 rfl ?_
                  exact ih2
              ·
                refine qv_iconst F (nI 1) d_M_count_57 ic_1 ?_
                refine qv_goto F d_M_count_58 rfl ?_
                refine sv_42 F hk d_M_count_75 ?_
                refine qv_st (e3 1 (by rw [ef]; unfold cl9; rw [if_pos (by omega)])) ?_
                refine qv_sub (L' := [(3, _), (2, _), (1, _), (0, _)]) [1, 2, 3, 4] rfl ?_
                refine qv_iinc (L' := [(3, _), (2, _), (1, _), (0, _)]) F _ d_M_count_76 0 rfl (ii_1 _) (by decide) rfl ?_
                refine qv_goto F d_M_count_79 rfl ?_
                exact ih2
    ·
      exact absurd hb (by decide)
  · intro k g hk hg ih
    refine qv_iload_n F d_M_count_4 0 rfl ?_
    refine qv_iconst F (nI 4) d_M_count_5 ic_4 ?_
    refine qv_icmpge F d_M_count_6 rfl (by omega) (by omega) (fun hb => ?_) (fun hb => ?_)
    ·
      omega
    ·
      refine qv_aload_n F d_M_count_9 2 rfl ?_
      refine g_M_50 F d_M_count_10 ?_
      refine qv_iload_n F d_M_count_13 0 rfl ?_
      refine qv_iconst F (nI 1) d_M_count_14 ic_1 ?_
      refine sv_42 F hk d_M_count_15 ?_
      refine qv_st (us_ua σ 42 g k 1) ?_
      refine qv_iinc (L' := [(2, _), (1, _), (0, _)]) F _ d_M_count_16 0 rfl (ii_1 _) (by decide) rfl ?_
      refine qv_goto F d_M_count_19 rfl ?_
      refine ih _ (fun i hi => ?_)
      by_cases e : i = k
      · subst e; exact up_eq _ _ _
      · rw [up_ne e]; exact hg i (by omega)
set_option maxRecDepth 100000 in
set_option maxHeartbeats 4000000 in
theorem c_M_fitting (l : Launch) (X : wX) (σ : sg) (v : Nat) (hv : v < 16) (h5 : ∀ k, σ 29 k < 4) (h6 : ∀ k, σ 30 k < 16) : mt_ l X y_M_fitting w_M_fitting 0 [.ref (adr X 28), .int (nI v)] σ (ei_ (nI (ft_ (mo_ σ) v)) σ) := by
  refine mt_of (own := R_M) rfl pl_M (Nat.le_of_ble_eq_true rfl) ?_
  intro zp ze zs zm za zb zt zc F hr hlk
  refine qv_sub (L' := [(0, _), (1, _)]) [0, 1] rfl ?_
  refine qv_iconst F (nI 0) d_M_fitting_0 ic_0 ?_
  refine qv_istore_n (L' := [(2, _), (0, _), (1, _)]) F d_M_fitting_1 (by decide) rfl ?_
  refine qv_iconst F (nI 0) d_M_fitting_2 ic_0 ?_
  refine qv_istore_n (L' := [(3, _), (2, _), (0, _), (1, _)]) F d_M_fitting_3 (by decide) rfl ?_
  have lp := lu_up (fun h (_ : Unit) => vv_ zp l ze (rr_ 0) zs zm za zb zt zc (MQ zb (mq_ X (ei_ (nI (ft_ (mo_ σ) v)) σ)) za zs 0 0 (aw_ X)) X 4 [(3, .int (nI h)), (2, .int (nI (fw_ (mo_ σ) v h))), (0, .ref (adr X 28)), (1, .int (nI v))] σ 4 []) (fun _ _ => True) 8 ?_ ?_ 0 () (Nat.zero_le _) trivial
  · exact lp
  · intro _ _
    refine qv_iload_n F d_M_fitting_4 0 rfl ?_
    refine qv_bipush F (nI 8) d_M_fitting_5 bic_8 ?_
    refine qv_icmpge F d_M_fitting_7 rfl (by decide) (by decide) (fun hb => ?_) (fun hb => ?_)
    ·
      refine qv_iload_n F d_M_fitting_36 1 rfl ?_
      exact qv_iret F hr hlk d_M_fitting_37 (ei_of rfl rfl)
    ·
      exact absurd hb (by decide)
  · intro h _ hh _ ih
    have ih := ih () trivial
    rw [← fw_st] at ih
    have q5 := h5 h
    have q6 := h6 v
    have hp : (σ 30 v / 2 ^ σ 29 h &&& 1) * 2 ^ h < 2 ^ 32 := by
      rw [bt_and]
      have h1 := bn_le ((σ 30 v).testBit (σ 29 h))
      have h2 : 2 ^ h ≤ 2 ^ 8 := Nat.pow_le_pow_right (by decide) (by omega)
      have h3 := Nat.mul_le_mul h1 h2
      omega
    refine qv_iload_n F d_M_fitting_4 0 rfl ?_
    refine qv_bipush F (nI 8) d_M_fitting_5 bic_8 ?_
    refine qv_icmpge F d_M_fitting_7 rfl (by omega) (by omega) (fun hb => ?_) (fun hb => ?_)
    ·
      omega
    ·
      refine qv_iload_n F d_M_fitting_10 1 rfl ?_
      refine qv_aload_n F d_M_fitting_11 2 rfl ?_
      refine g_M_13 F d_M_fitting_12 ?_
      refine qv_iload_n F d_M_fitting_15 3 rfl ?_
      refine ld_30 F hv d_M_fitting_16 ?_
      refine qv_aload_n F d_M_fitting_17 2 rfl ?_
      refine g_M_7 F d_M_fitting_18 ?_
      refine qv_iload_n F d_M_fitting_21 0 rfl ?_
      refine ld_29 F hh d_M_fitting_22 ?_
      refine qv_ishr F d_M_fitting_23 (by omega) (by omega) ?_
      refine qv_iconst F (nI 1) d_M_fitting_24 ic_1 ?_
      refine qv_iand F d_M_fitting_25 ?_
      refine qv_iload_n F d_M_fitting_26 0 rfl ?_
      refine qv_ishl F d_M_fitting_27 (by omega) hp ?_
      refine qv_ior F d_M_fitting_28 ?_
      refine qv_istore_n (L' := [(2, _), (3, _), (0, _), (1, _)]) F d_M_fitting_29 (by decide) rfl ?_
      refine qv_sub (L' := [(3, _), (2, _), (0, _), (1, _)]) [1, 0, 2, 3] rfl ?_
      refine qv_iinc (L' := [(3, _), (2, _), (0, _), (1, _)]) F _ d_M_fitting_30 0 rfl (ii_1 _) (by decide) rfl ?_
      refine qv_goto F d_M_fitting_33 rfl ?_
      exact ih
end
section
abbrev b_M_bits : ByteArray := prog_7_method_25_code
def y_M_bits : MethodName := ⟨R_M, "bits", "(I)I"⟩
abbrev w_M_bits : List Cond := wz_ y_M_bits b_M_bits 3 (some .int)
abbrev b_M_follow : ByteArray := prog_7_method_22_code
def y_M_follow : MethodName := ⟨R_M, "follow", "(II)Z"⟩
abbrev w_M_follow : List Cond := wz_ y_M_follow b_M_follow 6 (some .boolean)
abbrev b_M_held : ByteArray := prog_7_method_20_code
def y_M_held : MethodName := ⟨R_M, "held", "(II)I"⟩
abbrev w_M_held : List Cond := wz_ y_M_held b_M_held 5 (some .int)
abbrev b_M_holdMore : ByteArray := prog_7_method_21_code
def y_M_holdMore : MethodName := ⟨R_M, "holdMore", "(III)Z"⟩
abbrev w_M_holdMore : List Cond := wz_ y_M_holdMore b_M_holdMore 7 (some .boolean)
abbrev b_M_more : ByteArray := prog_7_method_19_code
def y_M_more : MethodName := ⟨R_M, "more", "(III)Z"⟩
abbrev w_M_more : List Cond := wz_ y_M_more b_M_more 5 (some .boolean)
end
section
theorem d_M_bits_0 : decode b_M_bits 0 = .ok (.iconst 0, 1) := by decide +kernel
theorem d_M_bits_1 : decode b_M_bits 1 = .ok (.istore_n 1, 1) := by decide +kernel
theorem d_M_bits_2 : decode b_M_bits 2 = .ok (.iconst 0, 1) := by decide +kernel
theorem d_M_bits_3 : decode b_M_bits 3 = .ok (.istore_n 2, 1) := by decide +kernel
theorem d_M_bits_4 : decode b_M_bits 4 = .ok (.iload_n 2, 1) := by decide +kernel
theorem d_M_bits_5 : decode b_M_bits 5 = .ok (.bipush 8, 2) := by decide +kernel
theorem d_M_bits_7 : decode b_M_bits 7 = .ok (.if_icmp .ge 17, 3) := by decide +kernel
theorem d_M_bits_10 : decode b_M_bits 10 = .ok (.iload_n 1, 1) := by decide +kernel
theorem d_M_bits_11 : decode b_M_bits 11 = .ok (.iload_n 0, 1) := by decide +kernel
theorem d_M_bits_12 : decode b_M_bits 12 = .ok (.iload_n 2, 1) := by decide +kernel
theorem d_M_bits_13 : decode b_M_bits 13 = .ok (.ishr, 1) := by decide +kernel
theorem d_M_bits_14 : decode b_M_bits 14 = .ok (.iconst 1, 1) := by decide +kernel
theorem d_M_bits_15 : decode b_M_bits 15 = .ok (.iand, 1) := by decide +kernel
theorem d_M_bits_16 : decode b_M_bits 16 = .ok (.iadd, 1) := by decide +kernel
theorem d_M_bits_17 : decode b_M_bits 17 = .ok (.istore_n 1, 1) := by decide +kernel
theorem d_M_bits_18 : decode b_M_bits 18 = .ok (.iinc 2 1, 3) := by decide +kernel
theorem d_M_bits_21 : decode b_M_bits 21 = .ok (.goto (-17), 3) := by decide +kernel
theorem d_M_bits_24 : decode b_M_bits 24 = .ok (.iload_n 1, 1) := by decide +kernel
theorem d_M_bits_25 : decode b_M_bits 25 = .ok (.ireturn, 1) := by decide +kernel
theorem d_M_follow_0 : decode b_M_follow 0 = .ok (.aload_n 0, 1) := by decide +kernel
theorem d_M_follow_1 : decode b_M_follow 1 = .ok (.getfield 19, 3) := by decide +kernel
theorem d_M_follow_4 : decode b_M_follow 4 = .ok (.iload_n 1, 1) := by decide +kernel
theorem d_M_follow_5 : decode b_M_follow 5 = .ok (.iaload, 1) := by decide +kernel
theorem d_M_follow_6 : decode b_M_follow 6 = .ok (.istore_n 3, 1) := by decide +kernel
theorem d_M_follow_7 : decode b_M_follow 7 = .ok (.bipush 16, 2) := by decide +kernel
theorem d_M_follow_9 : decode b_M_follow 9 = .ok (.iload_n 2, 1) := by decide +kernel
theorem d_M_follow_10 : decode b_M_follow 10 = .ok (.imul, 1) := by decide +kernel
theorem d_M_follow_11 : decode b_M_follow 11 = .ok (.istore 4, 2) := by decide +kernel
theorem d_M_follow_13 : decode b_M_follow 13 = .ok (.aload_n 0, 1) := by decide +kernel
theorem d_M_follow_14 : decode b_M_follow 14 = .ok (.getfield 16, 3) := by decide +kernel
theorem d_M_follow_17 : decode b_M_follow 17 = .ok (.iload_n 1, 1) := by decide +kernel
theorem d_M_follow_18 : decode b_M_follow 18 = .ok (.iaload, 1) := by decide +kernel
theorem d_M_follow_19 : decode b_M_follow 19 = .ok (.tableswitch 95 0 2 #[25, 40, 61], 25) := by decide +kernel
theorem d_M_follow_44 : decode b_M_follow 44 = .ok (.aload_n 0, 1) := by decide +kernel
theorem d_M_follow_45 : decode b_M_follow 45 = .ok (.iload_n 2, 1) := by decide +kernel
theorem d_M_follow_46 : decode b_M_follow 46 = .ok (.iload_n 3, 1) := by decide +kernel
theorem d_M_follow_47 : decode b_M_follow 47 = .ok (.iconst 1, 1) := by decide +kernel
theorem d_M_follow_48 : decode b_M_follow 48 = .ok (.aload_n 0, 1) := by decide +kernel
theorem d_M_follow_49 : decode b_M_follow 49 = .ok (.getfield 22, 3) := by decide +kernel
theorem d_M_follow_52 : decode b_M_follow 52 = .ok (.iload_n 1, 1) := by decide +kernel
theorem d_M_follow_53 : decode b_M_follow 53 = .ok (.iaload, 1) := by decide +kernel
theorem d_M_follow_54 : decode b_M_follow 54 = .ok (.ishl, 1) := by decide +kernel
theorem d_M_follow_55 : decode b_M_follow 55 = .ok (.invokevirtual 104, 3) := by decide +kernel
theorem d_M_follow_58 : decode b_M_follow 58 = .ok (.ireturn, 1) := by decide +kernel
theorem d_M_follow_59 : decode b_M_follow 59 = .ok (.aload_n 0, 1) := by decide +kernel
theorem d_M_follow_60 : decode b_M_follow 60 = .ok (.iload_n 2, 1) := by decide +kernel
theorem d_M_follow_61 : decode b_M_follow 61 = .ok (.iload_n 3, 1) := by decide +kernel
theorem d_M_follow_62 : decode b_M_follow 62 = .ok (.aload_n 0, 1) := by decide +kernel
theorem d_M_follow_63 : decode b_M_follow 63 = .ok (.getfield 62, 3) := by decide +kernel
theorem d_M_follow_66 : decode b_M_follow 66 = .ok (.iload 4, 2) := by decide +kernel
theorem d_M_follow_68 : decode b_M_follow 68 = .ok (.aload_n 0, 1) := by decide +kernel
theorem d_M_follow_69 : decode b_M_follow 69 = .ok (.getfield 22, 3) := by decide +kernel
theorem d_M_follow_72 : decode b_M_follow 72 = .ok (.iload_n 1, 1) := by decide +kernel
theorem d_M_follow_73 : decode b_M_follow 73 = .ok (.iaload, 1) := by decide +kernel
theorem d_M_follow_74 : decode b_M_follow 74 = .ok (.iadd, 1) := by decide +kernel
theorem d_M_follow_75 : decode b_M_follow 75 = .ok (.iaload, 1) := by decide +kernel
theorem d_M_follow_76 : decode b_M_follow 76 = .ok (.invokevirtual 104, 3) := by decide +kernel
theorem d_M_follow_79 : decode b_M_follow 79 = .ok (.ireturn, 1) := by decide +kernel
theorem d_M_follow_80 : decode b_M_follow 80 = .ok (.aload_n 0, 1) := by decide +kernel
theorem d_M_follow_81 : decode b_M_follow 81 = .ok (.aload_n 0, 1) := by decide +kernel
theorem d_M_follow_82 : decode b_M_follow 82 = .ok (.getfield 62, 3) := by decide +kernel
theorem d_M_follow_85 : decode b_M_follow 85 = .ok (.iload 4, 2) := by decide +kernel
theorem d_M_follow_87 : decode b_M_follow 87 = .ok (.iload_n 3, 1) := by decide +kernel
theorem d_M_follow_88 : decode b_M_follow 88 = .ok (.iadd, 1) := by decide +kernel
theorem d_M_follow_89 : decode b_M_follow 89 = .ok (.iaload, 1) := by decide +kernel
theorem d_M_follow_90 : decode b_M_follow 90 = .ok (.aload_n 0, 1) := by decide +kernel
theorem d_M_follow_91 : decode b_M_follow 91 = .ok (.getfield 25, 3) := by decide +kernel
theorem d_M_follow_94 : decode b_M_follow 94 = .ok (.iload_n 1, 1) := by decide +kernel
theorem d_M_follow_95 : decode b_M_follow 95 = .ok (.iaload, 1) := by decide +kernel
theorem d_M_follow_96 : decode b_M_follow 96 = .ok (.aload_n 0, 1) := by decide +kernel
theorem d_M_follow_97 : decode b_M_follow 97 = .ok (.getfield 62, 3) := by decide +kernel
theorem d_M_follow_100 : decode b_M_follow 100 = .ok (.iload 4, 2) := by decide +kernel
theorem d_M_follow_102 : decode b_M_follow 102 = .ok (.aload_n 0, 1) := by decide +kernel
theorem d_M_follow_103 : decode b_M_follow 103 = .ok (.getfield 22, 3) := by decide +kernel
theorem d_M_follow_106 : decode b_M_follow 106 = .ok (.iload_n 1, 1) := by decide +kernel
theorem d_M_follow_107 : decode b_M_follow 107 = .ok (.iaload, 1) := by decide +kernel
theorem d_M_follow_108 : decode b_M_follow 108 = .ok (.iadd, 1) := by decide +kernel
theorem d_M_follow_109 : decode b_M_follow 109 = .ok (.iaload, 1) := by decide +kernel
theorem d_M_follow_110 : decode b_M_follow 110 = .ok (.invokevirtual 108, 3) := by decide +kernel
theorem d_M_follow_113 : decode b_M_follow 113 = .ok (.ireturn, 1) := by decide +kernel
theorem d_M_follow_114 : decode b_M_follow 114 = .ok (.aload_n 0, 1) := by decide +kernel
theorem d_M_follow_115 : decode b_M_follow 115 = .ok (.aload_n 0, 1) := by decide +kernel
theorem d_M_follow_116 : decode b_M_follow 116 = .ok (.getfield 62, 3) := by decide +kernel
theorem d_M_follow_119 : decode b_M_follow 119 = .ok (.iload 4, 2) := by decide +kernel
theorem d_M_follow_121 : decode b_M_follow 121 = .ok (.aload_n 0, 1) := by decide +kernel
theorem d_M_follow_122 : decode b_M_follow 122 = .ok (.getfield 22, 3) := by decide +kernel
theorem d_M_follow_125 : decode b_M_follow 125 = .ok (.iload_n 1, 1) := by decide +kernel
theorem d_M_follow_126 : decode b_M_follow 126 = .ok (.iaload, 1) := by decide +kernel
theorem d_M_follow_127 : decode b_M_follow 127 = .ok (.iadd, 1) := by decide +kernel
theorem d_M_follow_128 : decode b_M_follow 128 = .ok (.iaload, 1) := by decide +kernel
theorem d_M_follow_129 : decode b_M_follow 129 = .ok (.aload_n 0, 1) := by decide +kernel
theorem d_M_follow_130 : decode b_M_follow 130 = .ok (.getfield 25, 3) := by decide +kernel
theorem d_M_follow_133 : decode b_M_follow 133 = .ok (.iload_n 1, 1) := by decide +kernel
theorem d_M_follow_134 : decode b_M_follow 134 = .ok (.iaload, 1) := by decide +kernel
theorem d_M_follow_135 : decode b_M_follow 135 = .ok (.invokevirtual 111, 3) := by decide +kernel
theorem d_M_follow_138 : decode b_M_follow 138 = .ok (.istore 5, 2) := by decide +kernel
theorem d_M_follow_140 : decode b_M_follow 140 = .ok (.aload_n 0, 1) := by decide +kernel
theorem d_M_follow_141 : decode b_M_follow 141 = .ok (.iload_n 2, 1) := by decide +kernel
theorem d_M_follow_142 : decode b_M_follow 142 = .ok (.iload_n 3, 1) := by decide +kernel
theorem d_M_follow_143 : decode b_M_follow 143 = .ok (.iload 5, 2) := by decide +kernel
theorem d_M_follow_145 : decode b_M_follow 145 = .ok (.invokevirtual 104, 3) := by decide +kernel
theorem d_M_follow_148 : decode b_M_follow 148 = .ok (.ireturn, 1) := by decide +kernel
theorem d_M_held_0 : decode b_M_held 0 = .ok (.iconst 0, 1) := by decide +kernel
theorem d_M_held_1 : decode b_M_held 1 = .ok (.istore_n 3, 1) := by decide +kernel
theorem d_M_held_2 : decode b_M_held 2 = .ok (.iconst 0, 1) := by decide +kernel
theorem d_M_held_3 : decode b_M_held 3 = .ok (.istore 4, 2) := by decide +kernel
theorem d_M_held_5 : decode b_M_held 5 = .ok (.iload 4, 2) := by decide +kernel
theorem d_M_held_7 : decode b_M_held 7 = .ok (.bipush 8, 2) := by decide +kernel
theorem d_M_held_9 : decode b_M_held 9 = .ok (.if_icmp .ge 37, 3) := by decide +kernel
theorem d_M_held_12 : decode b_M_held 12 = .ok (.iload_n 3, 1) := by decide +kernel
theorem d_M_held_13 : decode b_M_held 13 = .ok (.iload_n 1, 1) := by decide +kernel
theorem d_M_held_14 : decode b_M_held 14 = .ok (.iload 4, 2) := by decide +kernel
theorem d_M_held_16 : decode b_M_held 16 = .ok (.ishr, 1) := by decide +kernel
theorem d_M_held_17 : decode b_M_held 17 = .ok (.iconst 1, 1) := by decide +kernel
theorem d_M_held_18 : decode b_M_held 18 = .ok (.iand, 1) := by decide +kernel
theorem d_M_held_19 : decode b_M_held 19 = .ok (.iconst 1, 1) := by decide +kernel
theorem d_M_held_20 : decode b_M_held 20 = .ok (.if_icmp .ne 17, 3) := by decide +kernel
theorem d_M_held_23 : decode b_M_held 23 = .ok (.aload_n 0, 1) := by decide +kernel
theorem d_M_held_24 : decode b_M_held 24 = .ok (.getfield 65, 3) := by decide +kernel
theorem d_M_held_27 : decode b_M_held 27 = .ok (.iconst 2, 1) := by decide +kernel
theorem d_M_held_28 : decode b_M_held 28 = .ok (.iload 4, 2) := by decide +kernel
theorem d_M_held_30 : decode b_M_held 30 = .ok (.imul, 1) := by decide +kernel
theorem d_M_held_31 : decode b_M_held 31 = .ok (.iload_n 2, 1) := by decide +kernel
theorem d_M_held_32 : decode b_M_held 32 = .ok (.iadd, 1) := by decide +kernel
theorem d_M_held_33 : decode b_M_held 33 = .ok (.iaload, 1) := by decide +kernel
theorem d_M_held_34 : decode b_M_held 34 = .ok (.goto 4, 3) := by decide +kernel
theorem d_M_held_37 : decode b_M_held 37 = .ok (.iconst 0, 1) := by decide +kernel
theorem d_M_held_38 : decode b_M_held 38 = .ok (.ior, 1) := by decide +kernel
theorem d_M_held_39 : decode b_M_held 39 = .ok (.istore_n 3, 1) := by decide +kernel
theorem d_M_held_40 : decode b_M_held 40 = .ok (.iinc 4 1, 3) := by decide +kernel
theorem d_M_held_43 : decode b_M_held 43 = .ok (.goto (-38), 3) := by decide +kernel
theorem d_M_held_46 : decode b_M_held 46 = .ok (.iload_n 3, 1) := by decide +kernel
theorem d_M_held_47 : decode b_M_held 47 = .ok (.ireturn, 1) := by decide +kernel
theorem d_M_holdMore_0 : decode b_M_holdMore 0 = .ok (.iconst 0, 1) := by decide +kernel
theorem d_M_holdMore_1 : decode b_M_holdMore 1 = .ok (.istore 4, 2) := by decide +kernel
theorem d_M_holdMore_3 : decode b_M_holdMore 3 = .ok (.iconst 0, 1) := by decide +kernel
theorem d_M_holdMore_4 : decode b_M_holdMore 4 = .ok (.istore 5, 2) := by decide +kernel
theorem d_M_holdMore_6 : decode b_M_holdMore 6 = .ok (.iload 5, 2) := by decide +kernel
theorem d_M_holdMore_8 : decode b_M_holdMore 8 = .ok (.bipush 8, 2) := by decide +kernel
theorem d_M_holdMore_10 : decode b_M_holdMore 10 = .ok (.if_icmp .ge 89, 3) := by decide +kernel
theorem d_M_holdMore_13 : decode b_M_holdMore 13 = .ok (.iload_n 1, 1) := by decide +kernel
theorem d_M_holdMore_14 : decode b_M_holdMore 14 = .ok (.iload 5, 2) := by decide +kernel
theorem d_M_holdMore_16 : decode b_M_holdMore 16 = .ok (.ishr, 1) := by decide +kernel
theorem d_M_holdMore_17 : decode b_M_holdMore 17 = .ok (.iconst 1, 1) := by decide +kernel
theorem d_M_holdMore_18 : decode b_M_holdMore 18 = .ok (.iand, 1) := by decide +kernel
theorem d_M_holdMore_19 : decode b_M_holdMore 19 = .ok (.iconst 1, 1) := by decide +kernel
theorem d_M_holdMore_20 : decode b_M_holdMore 20 = .ok (.if_icmp .ne 19, 3) := by decide +kernel
theorem d_M_holdMore_23 : decode b_M_holdMore 23 = .ok (.aload_n 0, 1) := by decide +kernel
theorem d_M_holdMore_24 : decode b_M_holdMore 24 = .ok (.getfield 65, 3) := by decide +kernel
theorem d_M_holdMore_27 : decode b_M_holdMore 27 = .ok (.iconst 2, 1) := by decide +kernel
theorem d_M_holdMore_28 : decode b_M_holdMore 28 = .ok (.iload 5, 2) := by decide +kernel
theorem d_M_holdMore_30 : decode b_M_holdMore 30 = .ok (.imul, 1) := by decide +kernel
theorem d_M_holdMore_31 : decode b_M_holdMore 31 = .ok (.iload_n 2, 1) := by decide +kernel
theorem d_M_holdMore_32 : decode b_M_holdMore 32 = .ok (.iadd, 1) := by decide +kernel
theorem d_M_holdMore_33 : decode b_M_holdMore 33 = .ok (.iaload, 1) := by decide +kernel
theorem d_M_holdMore_34 : decode b_M_holdMore 34 = .ok (.iload_n 3, 1) := by decide +kernel
theorem d_M_holdMore_35 : decode b_M_holdMore 35 = .ok (.ior, 1) := by decide +kernel
theorem d_M_holdMore_36 : decode b_M_holdMore 36 = .ok (.goto 14, 3) := by decide +kernel
theorem d_M_holdMore_39 : decode b_M_holdMore 39 = .ok (.aload_n 0, 1) := by decide +kernel
theorem d_M_holdMore_40 : decode b_M_holdMore 40 = .ok (.getfield 65, 3) := by decide +kernel
theorem d_M_holdMore_43 : decode b_M_holdMore 43 = .ok (.iconst 2, 1) := by decide +kernel
theorem d_M_holdMore_44 : decode b_M_holdMore 44 = .ok (.iload 5, 2) := by decide +kernel
theorem d_M_holdMore_46 : decode b_M_holdMore 46 = .ok (.imul, 1) := by decide +kernel
theorem d_M_holdMore_47 : decode b_M_holdMore 47 = .ok (.iload_n 2, 1) := by decide +kernel
theorem d_M_holdMore_48 : decode b_M_holdMore 48 = .ok (.iadd, 1) := by decide +kernel
theorem d_M_holdMore_49 : decode b_M_holdMore 49 = .ok (.iaload, 1) := by decide +kernel
theorem d_M_holdMore_50 : decode b_M_holdMore 50 = .ok (.istore 6, 2) := by decide +kernel
theorem d_M_holdMore_52 : decode b_M_holdMore 52 = .ok (.iload 4, 2) := by decide +kernel
theorem d_M_holdMore_54 : decode b_M_holdMore 54 = .ok (.ifCond .ne 19, 3) := by decide +kernel
theorem d_M_holdMore_57 : decode b_M_holdMore 57 = .ok (.iload 6, 2) := by decide +kernel
theorem d_M_holdMore_59 : decode b_M_holdMore 59 = .ok (.aload_n 0, 1) := by decide +kernel
theorem d_M_holdMore_60 : decode b_M_holdMore 60 = .ok (.getfield 65, 3) := by decide +kernel
theorem d_M_holdMore_63 : decode b_M_holdMore 63 = .ok (.iconst 2, 1) := by decide +kernel
theorem d_M_holdMore_64 : decode b_M_holdMore 64 = .ok (.iload 5, 2) := by decide +kernel
theorem d_M_holdMore_66 : decode b_M_holdMore 66 = .ok (.imul, 1) := by decide +kernel
theorem d_M_holdMore_67 : decode b_M_holdMore 67 = .ok (.iload_n 2, 1) := by decide +kernel
theorem d_M_holdMore_68 : decode b_M_holdMore 68 = .ok (.iadd, 1) := by decide +kernel
theorem d_M_holdMore_69 : decode b_M_holdMore 69 = .ok (.iaload, 1) := by decide +kernel
theorem d_M_holdMore_70 : decode b_M_holdMore 70 = .ok (.if_icmp .eq 7, 3) := by decide +kernel
theorem d_M_holdMore_73 : decode b_M_holdMore 73 = .ok (.iconst 1, 1) := by decide +kernel
theorem d_M_holdMore_74 : decode b_M_holdMore 74 = .ok (.goto 4, 3) := by decide +kernel
theorem d_M_holdMore_77 : decode b_M_holdMore 77 = .ok (.iconst 0, 1) := by decide +kernel
theorem d_M_holdMore_78 : decode b_M_holdMore 78 = .ok (.istore 4, 2) := by decide +kernel
theorem d_M_holdMore_80 : decode b_M_holdMore 80 = .ok (.aload_n 0, 1) := by decide +kernel
theorem d_M_holdMore_81 : decode b_M_holdMore 81 = .ok (.getfield 65, 3) := by decide +kernel
theorem d_M_holdMore_84 : decode b_M_holdMore 84 = .ok (.iconst 2, 1) := by decide +kernel
theorem d_M_holdMore_85 : decode b_M_holdMore 85 = .ok (.iload 5, 2) := by decide +kernel
theorem d_M_holdMore_87 : decode b_M_holdMore 87 = .ok (.imul, 1) := by decide +kernel
theorem d_M_holdMore_88 : decode b_M_holdMore 88 = .ok (.iload_n 2, 1) := by decide +kernel
theorem d_M_holdMore_89 : decode b_M_holdMore 89 = .ok (.iadd, 1) := by decide +kernel
theorem d_M_holdMore_90 : decode b_M_holdMore 90 = .ok (.iload 6, 2) := by decide +kernel
theorem d_M_holdMore_92 : decode b_M_holdMore 92 = .ok (.iastore, 1) := by decide +kernel
theorem d_M_holdMore_93 : decode b_M_holdMore 93 = .ok (.iinc 5 1, 3) := by decide +kernel
theorem d_M_holdMore_96 : decode b_M_holdMore 96 = .ok (.goto (-90), 3) := by decide +kernel
theorem d_M_holdMore_99 : decode b_M_holdMore 99 = .ok (.iload 4, 2) := by decide +kernel
theorem d_M_holdMore_101 : decode b_M_holdMore 101 = .ok (.ireturn, 1) := by decide +kernel
theorem d_M_more_0 : decode b_M_more 0 = .ok (.aload_n 0, 1) := by decide +kernel
theorem d_M_more_1 : decode b_M_more 1 = .ok (.getfield 62, 3) := by decide +kernel
theorem d_M_more_4 : decode b_M_more 4 = .ok (.bipush 16, 2) := by decide +kernel
theorem d_M_more_6 : decode b_M_more 6 = .ok (.iload_n 1, 1) := by decide +kernel
theorem d_M_more_7 : decode b_M_more 7 = .ok (.imul, 1) := by decide +kernel
theorem d_M_more_8 : decode b_M_more 8 = .ok (.iload_n 2, 1) := by decide +kernel
theorem d_M_more_9 : decode b_M_more 9 = .ok (.iadd, 1) := by decide +kernel
theorem d_M_more_10 : decode b_M_more 10 = .ok (.iaload, 1) := by decide +kernel
theorem d_M_more_11 : decode b_M_more 11 = .ok (.istore 4, 2) := by decide +kernel
theorem d_M_more_13 : decode b_M_more 13 = .ok (.aload_n 0, 1) := by decide +kernel
theorem d_M_more_14 : decode b_M_more 14 = .ok (.getfield 62, 3) := by decide +kernel
theorem d_M_more_17 : decode b_M_more 17 = .ok (.bipush 16, 2) := by decide +kernel
theorem d_M_more_19 : decode b_M_more 19 = .ok (.iload_n 1, 1) := by decide +kernel
theorem d_M_more_20 : decode b_M_more 20 = .ok (.imul, 1) := by decide +kernel
theorem d_M_more_21 : decode b_M_more 21 = .ok (.iload_n 2, 1) := by decide +kernel
theorem d_M_more_22 : decode b_M_more 22 = .ok (.iadd, 1) := by decide +kernel
theorem d_M_more_23 : decode b_M_more 23 = .ok (.iload 4, 2) := by decide +kernel
theorem d_M_more_25 : decode b_M_more 25 = .ok (.iload_n 3, 1) := by decide +kernel
theorem d_M_more_26 : decode b_M_more 26 = .ok (.aload_n 0, 1) := by decide +kernel
theorem d_M_more_27 : decode b_M_more 27 = .ok (.iload_n 2, 1) := by decide +kernel
theorem d_M_more_28 : decode b_M_more 28 = .ok (.invokevirtual 100, 3) := by decide +kernel
theorem d_M_more_31 : decode b_M_more 31 = .ok (.iand, 1) := by decide +kernel
theorem d_M_more_32 : decode b_M_more 32 = .ok (.ior, 1) := by decide +kernel
theorem d_M_more_33 : decode b_M_more 33 = .ok (.iastore, 1) := by decide +kernel
theorem d_M_more_34 : decode b_M_more 34 = .ok (.aload_n 0, 1) := by decide +kernel
theorem d_M_more_35 : decode b_M_more 35 = .ok (.getfield 62, 3) := by decide +kernel
theorem d_M_more_38 : decode b_M_more 38 = .ok (.bipush 16, 2) := by decide +kernel
theorem d_M_more_40 : decode b_M_more 40 = .ok (.iload_n 1, 1) := by decide +kernel
theorem d_M_more_41 : decode b_M_more 41 = .ok (.imul, 1) := by decide +kernel
theorem d_M_more_42 : decode b_M_more 42 = .ok (.iload_n 2, 1) := by decide +kernel
theorem d_M_more_43 : decode b_M_more 43 = .ok (.iadd, 1) := by decide +kernel
theorem d_M_more_44 : decode b_M_more 44 = .ok (.iaload, 1) := by decide +kernel
theorem d_M_more_45 : decode b_M_more 45 = .ok (.iload 4, 2) := by decide +kernel
theorem d_M_more_47 : decode b_M_more 47 = .ok (.if_icmp .eq 7, 3) := by decide +kernel
theorem d_M_more_50 : decode b_M_more 50 = .ok (.iconst 1, 1) := by decide +kernel
theorem d_M_more_51 : decode b_M_more 51 = .ok (.goto 4, 3) := by decide +kernel
theorem d_M_more_54 : decode b_M_more 54 = .ok (.iconst 0, 1) := by decide +kernel
theorem d_M_more_55 : decode b_M_more 55 = .ok (.ireturn, 1) := by decide +kernel
end
section
section RW
variable {own : String} {p : Program} {l : Launch} {e : Env} {R : Room} {s : State} {m : MethodId} {args : Array Value} {below : List Frame} {meth : Method} {c : Code} {Q : State → Prop} {X : wX} {nL : Nat} {L : List (Nat × Value)} {σ : sg} {pc : Nat} {st : List Value} {cc : ByteArray}
theorem i_M_100i (F : fx_ p s m args c cc nL R_M X) {v0 : Value} {rest : List Value} {d : Nat} {z : Int32} {τ : sg} (hM : mt_ l X y_M_fitting w_M_fitting d [.ref (adr X 28), v0] σ (ei_ z τ)) (hR : d + 1 ≤ R.frames ∧ 8 + (4 + 11) + 30 * d ≤ R.locals) (hw : (rest.map fun v => v.category).sum ≤ 8) (hd : decode cc pc = .ok (.invokevirtual 100, 3)) (k : vv_ p l e R s m args below meth c Q X nL L τ (pc + 3) (.int z :: rest)) : vv_ p l e R s m args below meth c Q X nL L σ pc (v0 :: .ref (adr X 28) :: rest) :=
  qv_callV F (maxL := 4) (ret := (some .int)) (n := 1) (as := [v0]) (rest := rest) 28 rfl rfl (by decide +kernel) (by decide +kernel) (by decide +kernel) (by decide +kernel) (by decide +kernel) (by decide +kernel) hM rfl hR hw hd (fun r τ' hp => by obtain ⟨rfl, rfl⟩ := hp; exact k)
theorem i_M_104i (F : fx_ p s m args c cc nL R_M X) {v0 v1 v2 : Value} {rest : List Value} {d : Nat} {z : Int32} {τ : sg} (hM : mt_ l X y_M_more w_M_more d [.ref (adr X 28), v0, v1, v2] σ (ei_ z τ)) (hR : d + 1 ≤ R.frames ∧ 8 + (5 + 11) + 30 * d ≤ R.locals) (hw : (rest.map fun v => v.category).sum ≤ 8) (hd : decode cc pc = .ok (.invokevirtual 104, 3)) (k : vv_ p l e R s m args below meth c Q X nL L τ (pc + 3) (.int z :: rest)) : vv_ p l e R s m args below meth c Q X nL L σ pc (v2 :: v1 :: v0 :: .ref (adr X 28) :: rest) :=
  qv_callV F (maxL := 5) (ret := (some .boolean)) (n := 3) (as := [v0, v1, v2]) (rest := rest) 28 rfl rfl (by decide +kernel) (by decide +kernel) (by decide +kernel) (by decide +kernel) (by decide +kernel) (by decide +kernel) hM rfl hR hw hd (fun r τ' hp => by obtain ⟨rfl, rfl⟩ := hp; exact k)
theorem i_M_108i (F : fx_ p s m args c cc nL R_M X) {v0 v1 v2 : Value} {rest : List Value} {d : Nat} {z : Int32} {τ : sg} (hM : mt_ l X y_M_holdMore w_M_holdMore d [.ref (adr X 28), v0, v1, v2] σ (ei_ z τ)) (hR : d + 1 ≤ R.frames ∧ 8 + (7 + 11) + 30 * d ≤ R.locals) (hw : (rest.map fun v => v.category).sum ≤ 8) (hd : decode cc pc = .ok (.invokevirtual 108, 3)) (k : vv_ p l e R s m args below meth c Q X nL L τ (pc + 3) (.int z :: rest)) : vv_ p l e R s m args below meth c Q X nL L σ pc (v2 :: v1 :: v0 :: .ref (adr X 28) :: rest) :=
  qv_callV F (maxL := 7) (ret := (some .boolean)) (n := 3) (as := [v0, v1, v2]) (rest := rest) 28 rfl rfl (by decide +kernel) (by decide +kernel) (by decide +kernel) (by decide +kernel) (by decide +kernel) (by decide +kernel) hM rfl hR hw hd (fun r τ' hp => by obtain ⟨rfl, rfl⟩ := hp; exact k)
theorem i_M_111i (F : fx_ p s m args c cc nL R_M X) {v0 v1 : Value} {rest : List Value} {d : Nat} {z : Int32} {τ : sg} (hM : mt_ l X y_M_held w_M_held d [.ref (adr X 28), v0, v1] σ (ei_ z τ)) (hR : d + 1 ≤ R.frames ∧ 8 + (5 + 11) + 30 * d ≤ R.locals) (hw : (rest.map fun v => v.category).sum ≤ 8) (hd : decode cc pc = .ok (.invokevirtual 111, 3)) (k : vv_ p l e R s m args below meth c Q X nL L τ (pc + 3) (.int z :: rest)) : vv_ p l e R s m args below meth c Q X nL L σ pc (v1 :: v0 :: .ref (adr X 28) :: rest) :=
  qv_callV F (maxL := 5) (ret := (some .int)) (n := 2) (as := [v0, v1]) (rest := rest) 28 rfl rfl (by decide +kernel) (by decide +kernel) (by decide +kernel) (by decide +kernel) (by decide +kernel) (by decide +kernel) hM rfl hR hw hd (fun r τ' hp => by obtain ⟨rfl, rfl⟩ := hp; exact k)
end RW
end
section
/-! the reference: relations -/
set_option maxRecDepth 100000 in
set_option maxHeartbeats 4000000 in
theorem c_M_bits (l : Launch) (X : wX) (σ : sg) (x : Nat) (hx : x < 256) : mt_ l X y_M_bits w_M_bits 0 [.int (nI x)] σ (ei_ (nI (pc_ x)) σ) := by
  refine mt_of (own := R_M) rfl pl_M (Nat.le_of_ble_eq_true rfl) ?_
  intro zp ze zs zm za zb zt zc F hr hlk
  refine qv_sub (L' := [(0, _)]) [0] rfl ?_
  refine qv_iconst F (nI 0) d_M_bits_0 ic_0 ?_
  refine qv_istore_n (L' := [(1, _), (0, _)]) F d_M_bits_1 (by decide) rfl ?_
  refine qv_iconst F (nI 0) d_M_bits_2 ic_0 ?_
  refine qv_istore_n (L' := [(2, _), (1, _), (0, _)]) F d_M_bits_3 (by decide) rfl ?_
  have lp := lu_up (fun h (_ : Unit) => vv_ zp l ze (rr_ 0) zs zm za zb zt zc (MQ zb (mq_ X (ei_ (nI (pc_ x)) σ)) za zs 0 0 (aw_ X)) X 3 [(2, .int (nI h)), (1, .int (nI (sm_ (fun h => (x.testBit h).toNat) h))), (0, .int (nI x))] σ 4 []) (fun _ _ => True) 8 ?_ ?_ 0 () (Nat.zero_le _) trivial
  · exact lp
  · intro _ _
    refine qv_iload_n F d_M_bits_4 0 rfl ?_
    refine qv_bipush F (nI 8) d_M_bits_5 bic_8 ?_
    refine qv_icmpge F d_M_bits_7 rfl (by decide) (by decide) (fun hb => ?_) (fun hb => ?_)
    ·
      refine qv_iload_n F d_M_bits_24 1 rfl ?_
      exact qv_iret F hr hlk d_M_bits_25 (ei_of rfl rfl)
    ·
      exact absurd hb (by decide)
  · intro h _ hh _ ih
    have ih := ih () trivial
    refine qv_iload_n F d_M_bits_4 0 rfl ?_
    refine qv_bipush F (nI 8) d_M_bits_5 bic_8 ?_
    refine qv_icmpge F d_M_bits_7 rfl (by omega) (by omega) (fun hb => ?_) (fun hb => ?_)
    ·
      omega
    ·
      refine qv_iload_n F d_M_bits_10 1 rfl ?_
      refine qv_iload_n F d_M_bits_11 2 rfl ?_
      refine qv_iload_n F d_M_bits_12 0 rfl ?_
      refine qv_ishr F d_M_bits_13 (by omega) (by omega) ?_
      refine qv_iconst F (nI 1) d_M_bits_14 ic_1 ?_
      refine qv_iand F d_M_bits_15 ?_
      rw [bt_and]
      refine qv_iadd F d_M_bits_16 ?_
      refine qv_istore_n (L' := [(1, _), (2, _), (0, _)]) F d_M_bits_17 (by decide) rfl ?_
      refine qv_sub (L' := [(2, _), (1, _), (0, _)]) [1, 0, 2] rfl ?_
      refine qv_iinc (L' := [(2, _), (1, _), (0, _)]) F _ d_M_bits_18 0 rfl (ii_1 _) (by decide) rfl ?_
      refine qv_goto F d_M_bits_21 rfl ?_
      exact ih
set_option maxRecDepth 100000 in
set_option maxHeartbeats 4000000 in
theorem c_M_more (l : Launch) (X : wX) (σ : sg) (c v x : Nat) (hc : c < 8) (hv : v < 16) (h46 : ∀ k, σ 46 k < 256) (h5 : ∀ k, σ 29 k < 4) (h6 : ∀ k, σ 30 k < 16) : mt_ l X y_M_more w_M_more 1 [.ref (adr X 28), .int (nI c), .int (nI v), .int (nI x)] σ (ei_ (nI (ad_ (ft_ (mo_ σ)) c v x (mg_ σ 0)).2.2) (mr_ σ (ad_ (ft_ (mo_ σ)) c v x (mg_ σ 0)))) := by
  refine mt_of (own := R_M) rfl pl_M (Nat.le_of_ble_eq_true rfl) ?_
  intro zp ze zs zm za zb zt zc F hr hlk
  refine qv_sub (L' := [(0, _), (1, _), (2, _), (3, _)]) [0, 1, 2, 3] rfl ?_
  have ec : 16 * c + v = c * 16 + v := by omega
  have b1 := h46 (c * 16 + v)
  have b2 := or_256 b1 (and_256 (a := x) (ft_lt (mo_ σ) v))
  refine qv_aload_n F d_M_more_0 0 rfl ?_
  refine g_M_62 F d_M_more_1 ?_
  refine qv_bipush F (nI 16) d_M_more_4 bic_16 ?_
  refine qv_iload_n F d_M_more_6 1 rfl ?_
  refine qv_imul F d_M_more_7 ?_
  refine qv_iload_n F d_M_more_8 2 rfl ?_
  refine qv_iadd F d_M_more_9 ?_
  refine ld_46 F (by omega) d_M_more_10 ?_
  refine qv_istore (L' := [(4, _), (0, _), (1, _), (2, _), (3, _)]) F d_M_more_11 (by decide) rfl ?_
  refine qv_aload_n F d_M_more_13 1 rfl ?_
  refine g_M_62 F d_M_more_14 ?_
  refine qv_bipush F (nI 16) d_M_more_17 bic_16 ?_
  refine qv_iload_n F d_M_more_19 2 rfl ?_
  refine qv_imul F d_M_more_20 ?_
  refine qv_iload_n F d_M_more_21 3 rfl ?_
  refine qv_iadd F d_M_more_22 ?_
  refine qv_iload F d_M_more_23 0 rfl ?_
  refine qv_iload_n F d_M_more_25 4 rfl ?_
  refine qv_aload_n F d_M_more_26 1 rfl ?_
  refine qv_iload_n F d_M_more_27 3 rfl ?_
  refine i_M_100i F (c_M_fitting l X σ v hv h5 h6) (by decide) (Nat.le_of_ble_eq_true rfl) d_M_more_28 ?_
  refine qv_iand F d_M_more_31 ?_
  refine qv_ior F d_M_more_32 ?_
  refine sv_46 F (by omega) d_M_more_33 ?_
  refine qv_aload_n F d_M_more_34 1 rfl ?_
  refine g_M_62 F d_M_more_35 ?_
  refine qv_bipush F (nI 16) d_M_more_38 bic_16 ?_
  refine qv_iload_n F d_M_more_40 2 rfl ?_
  refine qv_imul F d_M_more_41 ?_
  refine qv_iload_n F d_M_more_42 3 rfl ?_
  refine qv_iadd F d_M_more_43 ?_
  refine ld_46 F (by omega) d_M_more_44 ?_
  refine qv_iload F d_M_more_45 0 rfl ?_
  rw [us_eq, up_eq, ec]
  refine qv_icmpeq F d_M_more_47 rfl (by omega) (by omega) (fun hb => ?_) (fun hb => ?_)
  ·
    refine qv_iconst F (nI 0) d_M_more_54 ic_0 ?_
    exact qv_zret F hr hlk (by first | exact Or.inl rfl | exact Or.inr rfl | exact bz_01 _) d_M_more_55 (ei_of (by show nI 0 = nI (if σ 46 (c * 16 + v) ||| (x &&& ft_ (mo_ σ) v) = σ 46 (c * 16 + v) then 0 else 1); rw [if_pos hb]) (mr_46 σ _ _ _ _ rfl))
  ·
    refine qv_iconst F (nI 1) d_M_more_50 ic_1 ?_
    refine qv_goto F d_M_more_51 rfl ?_
    exact qv_zret F hr hlk (by first | exact Or.inl rfl | exact Or.inr rfl | exact bz_01 _) d_M_more_55 (ei_of (by show nI 1 = nI (if σ 46 (c * 16 + v) ||| (x &&& ft_ (mo_ σ) v) = σ 46 (c * 16 + v) then 0 else 1); rw [if_neg hb]) (mr_46 σ _ _ _ _ rfl))
set_option maxRecDepth 100000 in
set_option maxHeartbeats 4000000 in
theorem c_M_held (l : Launch) (X : wX) (σ : sg) (set f : Nat) (hset : set < 256) (hf : f < 2) : mt_ l X y_M_held w_M_held 0 [.ref (adr X 28), .int (nI set), .int (nI f)] σ (ei_ (nI (ha_ (σ 47) set f 8)) σ) := by
  refine mt_of (own := R_M) rfl pl_M (Nat.le_of_ble_eq_true rfl) ?_
  intro zp ze zs zm za zb zt zc F hr hlk
  refine qv_sub (L' := [(0, _), (1, _), (2, _)]) [0, 1, 2] rfl ?_
  refine qv_iconst F (nI 0) d_M_held_0 ic_0 ?_
  refine qv_istore_n (L' := [(3, _), (0, _), (1, _), (2, _)]) F d_M_held_1 (by decide) rfl ?_
  refine qv_iconst F (nI 0) d_M_held_2 ic_0 ?_
  refine qv_istore (L' := [(4, _), (3, _), (0, _), (1, _), (2, _)]) F d_M_held_3 (by decide) rfl ?_
  have lp := lu_up (fun h (_ : Unit) => vv_ zp l ze (rr_ 0) zs zm za zb zt zc (MQ zb (mq_ X (ei_ (nI (ha_ (σ 47) set f 8)) σ)) za zs 0 0 (aw_ X)) X 5 [(4, .int (nI h)), (3, .int (nI (ha_ (σ 47) set f h))), (0, .ref (adr X 28)), (1, .int (nI set)), (2, .int (nI f))] σ 5 []) (fun _ _ => True) 8 ?_ ?_ 0 () (Nat.zero_le _) trivial
  · exact lp
  · intro _ _
    refine qv_iload F d_M_held_5 0 rfl ?_
    refine qv_bipush F (nI 8) d_M_held_7 bic_8 ?_
    refine qv_icmpge F d_M_held_9 rfl (by decide) (by decide) (fun hb => ?_) (fun hb => ?_)
    ·
      refine qv_iload_n F d_M_held_46 1 rfl ?_
      exact qv_iret F hr hlk d_M_held_47 (ei_of rfl rfl)
    ·
      exact absurd hb (by decide)
  · intro h _ hh _ ih
    have ih := ih () trivial
    rw [ha_st (σ 47) set f h] at ih
    have e1 : 2 * h + f = h * 2 + f := by omega
    have hbn := bn_le (set.testBit h)
    refine qv_iload F d_M_held_5 0 rfl ?_
    refine qv_bipush F (nI 8) d_M_held_7 bic_8 ?_
    refine qv_icmpge F d_M_held_9 rfl (by omega) (by omega) (fun hb => ?_) (fun hb => ?_)
    ·
      omega
    ·
      refine qv_iload_n F d_M_held_12 1 rfl ?_
      refine qv_iload_n F d_M_held_13 3 rfl ?_
      refine qv_iload F d_M_held_14 0 rfl ?_
      refine qv_ishr F d_M_held_16 (by omega) (by omega) ?_
      refine qv_iconst F (nI 1) d_M_held_17 ic_1 ?_
      refine qv_iand F d_M_held_18 ?_
      rw [bt_and]
      refine qv_iconst F (nI 1) d_M_held_19 ic_1 ?_
      refine qv_icmpne F d_M_held_20 rfl (by omega) (by omega) (fun hb => ?_) (fun hb => ?_)
      ·
        have hz : set.testBit h = false := by
          cases q : set.testBit h with
          | false => rfl
          | true => rw [q] at hb; exact absurd rfl hb
        rw [hz, if_neg (by decide)] at ih
        refine qv_iconst F (nI 0) d_M_held_37 ic_0 ?_
        refine qv_ior F d_M_held_38 ?_
        refine qv_istore_n (L' := [(3, _), (4, _), (0, _), (1, _), (2, _)]) F d_M_held_39 (by decide) rfl ?_
        refine qv_sub (L' := [(4, _), (3, _), (0, _), (1, _), (2, _)]) [1, 0, 2, 3, 4] rfl ?_
        refine qv_iinc (L' := [(4, _), (3, _), (0, _), (1, _), (2, _)]) F _ d_M_held_40 0 rfl (ii_1 _) (by decide) rfl ?_
        refine qv_goto F d_M_held_43 rfl ?_
        exact ih
      ·
        have hz : set.testBit h = true := by
          cases q : set.testBit h with
          | true => rfl
          | false => rw [q] at hb; exact absurd hb (by decide)
        rw [hz, if_pos rfl] at ih
        refine qv_aload_n F d_M_held_23 2 rfl ?_
        refine g_M_65 F d_M_held_24 ?_
        refine qv_iconst F (nI 2) d_M_held_27 ic_2 ?_
        refine qv_iload F d_M_held_28 0 rfl ?_
        refine qv_imul F d_M_held_30 ?_
        refine qv_iload_n F d_M_held_31 4 rfl ?_
        refine qv_iadd F d_M_held_32 ?_
        refine ld_47 F (by omega) d_M_held_33 ?_
        refine qv_goto F d_M_held_34 rfl ?_
        rw [e1]
        refine qv_ior F d_M_held_38 ?_
        refine qv_istore_n (L' := [(3, _), (4, _), (0, _), (1, _), (2, _)]) F d_M_held_39 (by decide) rfl ?_
        refine qv_sub (L' := [(4, _), (3, _), (0, _), (1, _), (2, _)]) [1, 0, 2, 3, 4] rfl ?_
        refine qv_iinc (L' := [(4, _), (3, _), (0, _), (1, _), (2, _)]) F _ d_M_held_40 0 rfl (ii_1 _) (by decide) rfl ?_
        refine qv_goto F d_M_held_43 rfl ?_
        exact ih
set_option maxRecDepth 100000 in
set_option maxHeartbeats 4000000 in
theorem c_M_holdMore (l : Launch) (X : wX) (σ : sg) (set f x : Nat) (hset : set < 256) (hf : f < 2) (hx : x < 256) (h47 : ∀ k, σ 47 k < 256) (h46 : ∀ k, σ 46 k < 256) : mt_ l X y_M_holdMore w_M_holdMore 0 [.ref (adr X 28), .int (nI set), .int (nI f), .int (nI x)] σ (ei_ (nI (hs_ set f x 8 (mg_ σ 0)).2.2) (mr_ σ (hs_ set f x 8 (mg_ σ 0)))) := by
  refine mt_of (own := R_M) rfl pl_M (Nat.le_of_ble_eq_true rfl) ?_
  intro zp ze zs zm za zb zt zc F hr hlk
  refine qv_sub (L' := [(0, _), (1, _), (2, _), (3, _)]) [0, 1, 2, 3] rfl ?_
  have hB0 : B_ (mg_ σ 0) := ⟨h46, h47⟩
  refine qv_iconst F (nI 0) d_M_holdMore_0 ic_0 ?_
  refine qv_istore (L' := [(4, _), (0, _), (1, _), (2, _), (3, _)]) F d_M_holdMore_1 (by decide) rfl ?_
  refine qv_iconst F (nI 0) d_M_holdMore_3 ic_0 ?_
  refine qv_istore (L' := [(5, _), (4, _), (0, _), (1, _), (2, _), (3, _)]) F d_M_holdMore_4 (by decide) rfl ?_
  have lp := lu_up (fun h (_ : Unit) => vv_ zp l ze (rr_ 0) zs zm za zb zt zc (MQ zb (mq_ X (ei_ (nI (hs_ set f x 8 (mg_ σ 0)).2.2) (mr_ σ (hs_ set f x 8 (mg_ σ 0))))) za zs 0 0 (aw_ X)) X 7 [(5, .int (nI h)), (4, .int (nI (hs_ set f x h (mg_ σ 0)).2.2)), (0, .ref (adr X 28)), (1, .int (nI set)), (2, .int (nI f)), (3, .int (nI x))] (mr_ σ (hs_ set f x h (mg_ σ 0))) 6 []) (fun _ _ => True) 8 ?_ ?_ 0 () (Nat.zero_le _) trivial
  · exact qv_st (mr_mg σ 0).symm lp
  · intro _ _
    have hfl : fl_ (hs_ set f x 8 (mg_ σ 0)) := hs_fl (Or.inl rfl)
    refine qv_iload F d_M_holdMore_6 0 rfl ?_
    refine qv_bipush F (nI 8) d_M_holdMore_8 bic_8 ?_
    refine qv_icmpge F d_M_holdMore_10 rfl (by decide) (by decide) (fun hb => ?_) (fun hb => ?_)
    ·
      refine qv_iload F d_M_holdMore_99 1 rfl ?_
      exact qv_zret F hr hlk (by rcases hfl with h | h <;> rw [h] <;> first | exact Or.inl rfl | exact Or.inr rfl) d_M_holdMore_101 (ei_of rfl rfl)
    ·
      exact absurd hb (by decide)
  · intro h _ hh _ ih
    have ih := ih () trivial
    have e0 : hs_ set f x (h + 1) (mg_ σ 0) = if set.testBit h = true then h1_ f x h (hs_ set f x h (mg_ σ 0)) else hs_ set f x h (mg_ σ 0) := rfl
    rw [e0] at ih
    have hfl : fl_ (hs_ set f x h (mg_ σ 0)) := hs_fl (Or.inl rfl)
    have hB := hs_B (set := set) (f := f) hx h _ hB0
    generalize hs_ set f x h (mg_ σ 0) = r at ih hfl hB ⊢
    obtain ⟨p, q, g⟩ := r
    have hfl : g = 0 ∨ g = 1 := hfl
    have e1 : 2 * h + f = h * 2 + f := by omega
    have hbn := bn_le (set.testBit h)
    have bq := hB.2 (h * 2 + f)
    have bq : q (h * 2 + f) < 256 := bq
    have bo := or_256 bq hx
    refine qv_iload F d_M_holdMore_6 0 rfl ?_
    refine qv_bipush F (nI 8) d_M_holdMore_8 bic_8 ?_
    refine qv_icmpge F d_M_holdMore_10 rfl (by omega) (by omega) (fun hb => ?_) (fun hb => ?_)
    ·
      omega
    ·
      refine qv_iload_n F d_M_holdMore_13 3 rfl ?_
      refine qv_iload F d_M_holdMore_14 0 rfl ?_
      refine qv_ishr F d_M_holdMore_16 (by omega) (by omega) ?_
      refine qv_iconst F (nI 1) d_M_holdMore_17 ic_1 ?_
      refine qv_iand F d_M_holdMore_18 ?_
      rw [bt_and]
      refine qv_iconst F (nI 1) d_M_holdMore_19 ic_1 ?_
      refine qv_icmpne F d_M_holdMore_20 rfl (by omega) (by omega) (fun hb => ?_) (fun hb => ?_)
      ·
        have hz : set.testBit h = false := by
          cases z : set.testBit h with
          | false => rfl
          | true => rw [z] at hb; exact absurd rfl hb
        rw [hz, if_neg (by decide)] at ih
        have e2 : us (mr_ σ (p, q, g)) 47 (2 * h + f) (q (2 * h + f)) = mr_ σ (p, q, g) := by
          rw [mr_47 σ (p, q, g) _ _ g]
          show mr_ σ (p, va_up q (2 * h + f) (q (2 * h + f)), g) = _
          rw [up_id]
        refine qv_aload_n F d_M_holdMore_39 2 rfl ?_
        refine g_M_65 F d_M_holdMore_40 ?_
        refine qv_iconst F (nI 2) d_M_holdMore_43 ic_2 ?_
        refine qv_iload F d_M_holdMore_44 0 rfl ?_
        refine qv_imul F d_M_holdMore_46 ?_
        refine qv_iload_n F d_M_holdMore_47 4 rfl ?_
        refine qv_iadd F d_M_holdMore_48 ?_
        refine ld_47 F (by omega) d_M_holdMore_49 ?_
        refine qv_istore (L' := [(6, _), (5, _), (4, _), (0, _), (1, _), (2, _), (3, _)]) F d_M_holdMore_50 (by decide) rfl ?_
        refine qv_iload F d_M_holdMore_52 2 rfl ?_
        refine qv_ifne F d_M_holdMore_54 rfl (show g < 2 ^ 31 by omega) (fun hb => ?_) (fun hb => ?_)
        ·
          have hb : g ≠ 0 := hb
          obtain rfl : g = 1 := by omega
          refine qv_iconst F (nI 1) d_M_holdMore_73 ic_1 ?_
          refine qv_goto F d_M_holdMore_74 rfl ?_
          refine qv_istore (L' := [(4, _), (6, _), (5, _), (0, _), (1, _), (2, _), (3, _)]) F d_M_holdMore_78 (by decide) rfl ?_
          refine qv_aload_n F d_M_holdMore_80 3 rfl ?_
          refine g_M_65 F d_M_holdMore_81 ?_
          refine qv_iconst F (nI 2) d_M_holdMore_84 ic_2 ?_
          refine qv_iload F d_M_holdMore_85 2 rfl ?_
          refine qv_imul F d_M_holdMore_87 ?_
          refine qv_iload_n F d_M_holdMore_88 5 rfl ?_
          refine qv_iadd F d_M_holdMore_89 ?_
          refine qv_iload F d_M_holdMore_90 1 rfl ?_
          refine sv_47 F (by omega) d_M_holdMore_92 ?_
          refine qv_st e2 ?_
          refine qv_sub (L' := [(5, _), (4, _), (0, _), (1, _), (2, _), (3, _)]) [2, 0, 3, 4, 5, 6] rfl ?_
          refine qv_iinc (L' := [(5, _), (4, _), (0, _), (1, _), (2, _), (3, _)]) F _ d_M_holdMore_93 0 rfl (ii_1 _) (by decide) rfl ?_
          refine qv_goto F d_M_holdMore_96 rfl ?_
          exact ih
        ·
          have hb : g = 0 := hb
          subst hb
          refine qv_iload F d_M_holdMore_57 0 rfl ?_
          refine qv_aload_n F d_M_holdMore_59 3 rfl ?_
          refine g_M_65 F d_M_holdMore_60 ?_
          refine qv_iconst F (nI 2) d_M_holdMore_63 ic_2 ?_
          refine qv_iload F d_M_holdMore_64 1 rfl ?_
          refine qv_imul F d_M_holdMore_66 ?_
          refine qv_iload_n F d_M_holdMore_67 5 rfl ?_
          refine qv_iadd F d_M_holdMore_68 ?_
          refine ld_47 F (by omega) d_M_holdMore_69 ?_
          refine qv_icmpeq F d_M_holdMore_70 rfl (show q (2 * h + f) < 2 ^ 31 by rw [e1]; omega) (show q (2 * h + f) < 2 ^ 31 by rw [e1]; omega) (fun hb => ?_) (fun hb => ?_)
          ·
            refine qv_iconst F (nI 0) d_M_holdMore_77 ic_0 ?_
            refine qv_istore (L' := [(4, _), (6, _), (5, _), (0, _), (1, _), (2, _), (3, _)]) F d_M_holdMore_78 (by decide) rfl ?_
            refine qv_aload_n F d_M_holdMore_80 3 rfl ?_
            refine g_M_65 F d_M_holdMore_81 ?_
            refine qv_iconst F (nI 2) d_M_holdMore_84 ic_2 ?_
            refine qv_iload F d_M_holdMore_85 2 rfl ?_
            refine qv_imul F d_M_holdMore_87 ?_
            refine qv_iload_n F d_M_holdMore_88 5 rfl ?_
            refine qv_iadd F d_M_holdMore_89 ?_
            refine qv_iload F d_M_holdMore_90 1 rfl ?_
            refine sv_47 F (by omega) d_M_holdMore_92 ?_
            refine qv_st e2 ?_
            refine qv_sub (L' := [(5, _), (4, _), (0, _), (1, _), (2, _), (3, _)]) [2, 0, 3, 4, 5, 6] rfl ?_
            refine qv_iinc (L' := [(5, _), (4, _), (0, _), (1, _), (2, _), (3, _)]) F _ d_M_holdMore_93 0 rfl (ii_1 _) (by decide) rfl ?_
            refine qv_goto F d_M_holdMore_96 rfl ?_
            exact ih
          ·
            exact absurd rfl hb
      ·
        have hz : set.testBit h = true := by
          cases z : set.testBit h with
          | true => rfl
          | false => rw [z] at hb; exact absurd hb (by decide)
        rw [hz, if_pos rfl] at ih
        have e2 : ∀ y, us (mr_ σ (p, q, g)) 47 (2 * h + f) (q (2 * h + f) ||| x) = mr_ σ (p, va_up q (h * 2 + f) (q (h * 2 + f) ||| x), y) := fun y => by
          rw [mr_47 σ (p, q, g) _ _ y, e1]
        have e3 : h1_ f x h (p, q, g) = (p, va_up q (h * 2 + f) (q (h * 2 + f) ||| x), if q (h * 2 + f) ||| x = q (h * 2 + f) then g else 1) := rfl
        rw [e3] at ih
        refine qv_aload_n F d_M_holdMore_23 2 rfl ?_
        refine g_M_65 F d_M_holdMore_24 ?_
        refine qv_iconst F (nI 2) d_M_holdMore_27 ic_2 ?_
        refine qv_iload F d_M_holdMore_28 0 rfl ?_
        refine qv_imul F d_M_holdMore_30 ?_
        refine qv_iload_n F d_M_holdMore_31 4 rfl ?_
        refine qv_iadd F d_M_holdMore_32 ?_
        refine ld_47 F (by omega) d_M_holdMore_33 ?_
        refine qv_iload_n F d_M_holdMore_34 5 rfl ?_
        refine qv_ior F d_M_holdMore_35 ?_
        refine qv_goto F d_M_holdMore_36 rfl ?_
        refine qv_istore (L' := [(6, _), (5, _), (4, _), (0, _), (1, _), (2, _), (3, _)]) F d_M_holdMore_50 (by decide) rfl ?_
        refine qv_iload F d_M_holdMore_52 2 rfl ?_
        refine qv_ifne F d_M_holdMore_54 rfl (show g < 2 ^ 31 by omega) (fun hb => ?_) (fun hb => ?_)
        ·
          have hb : g ≠ 0 := hb
          obtain rfl : g = 1 := by omega
          have e4 : (if q (h * 2 + f) ||| x = q (h * 2 + f) then 1 else 1) = 1 := by by_cases z : q (h * 2 + f) ||| x = q (h * 2 + f); rw [if_pos z]; rw [if_neg z]
          rw [e4] at ih
          refine qv_iconst F (nI 1) d_M_holdMore_73 ic_1 ?_
          refine qv_goto F d_M_holdMore_74 rfl ?_
          refine qv_istore (L' := [(4, _), (6, _), (5, _), (0, _), (1, _), (2, _), (3, _)]) F d_M_holdMore_78 (by decide) rfl ?_
          refine qv_aload_n F d_M_holdMore_80 3 rfl ?_
          refine g_M_65 F d_M_holdMore_81 ?_
          refine qv_iconst F (nI 2) d_M_holdMore_84 ic_2 ?_
          refine qv_iload F d_M_holdMore_85 2 rfl ?_
          refine qv_imul F d_M_holdMore_87 ?_
          refine qv_iload_n F d_M_holdMore_88 5 rfl ?_
          refine qv_iadd F d_M_holdMore_89 ?_
          refine qv_iload F d_M_holdMore_90 1 rfl ?_
          refine sv_47 F (by omega) d_M_holdMore_92 ?_
          refine qv_st (e2 1) ?_
          refine qv_sub (L' := [(5, _), (4, _), (0, _), (1, _), (2, _), (3, _)]) [2, 0, 3, 4, 5, 6] rfl ?_
          refine qv_iinc (L' := [(5, _), (4, _), (0, _), (1, _), (2, _), (3, _)]) F _ d_M_holdMore_93 0 rfl (ii_1 _) (by decide) rfl ?_
          refine qv_goto F d_M_holdMore_96 rfl ?_
          exact ih
        ·
          have hb : g = 0 := hb
          subst hb
          refine qv_iload F d_M_holdMore_57 0 rfl ?_
          refine qv_aload_n F d_M_holdMore_59 3 rfl ?_
          refine g_M_65 F d_M_holdMore_60 ?_
          refine qv_iconst F (nI 2) d_M_holdMore_63 ic_2 ?_
          refine qv_iload F d_M_holdMore_64 1 rfl ?_
          refine qv_imul F d_M_holdMore_66 ?_
          refine qv_iload_n F d_M_holdMore_67 5 rfl ?_
          refine qv_iadd F d_M_holdMore_68 ?_
          refine ld_47 F (by omega) d_M_holdMore_69 ?_
          refine qv_icmpeq F d_M_holdMore_70 rfl (show q (2 * h + f) ||| x < 2 ^ 31 by rw [e1]; omega) (show q (2 * h + f) < 2 ^ 31 by rw [e1]; omega) (fun hb => ?_) (fun hb => ?_)
          ·
            have hb : q (2 * h + f) ||| x = q (2 * h + f) := hb
            rw [e1] at hb
            rw [if_pos hb] at ih
            refine qv_iconst F (nI 0) d_M_holdMore_77 ic_0 ?_
            refine qv_istore (L' := [(4, _), (6, _), (5, _), (0, _), (1, _), (2, _), (3, _)]) F d_M_holdMore_78 (by decide) rfl ?_
            refine qv_aload_n F d_M_holdMore_80 3 rfl ?_
            refine g_M_65 F d_M_holdMore_81 ?_
            refine qv_iconst F (nI 2) d_M_holdMore_84 ic_2 ?_
            refine qv_iload F d_M_holdMore_85 2 rfl ?_
            refine qv_imul F d_M_holdMore_87 ?_
            refine qv_iload_n F d_M_holdMore_88 5 rfl ?_
            refine qv_iadd F d_M_holdMore_89 ?_
            refine qv_iload F d_M_holdMore_90 1 rfl ?_
            refine sv_47 F (by omega) d_M_holdMore_92 ?_
            refine qv_st (e2 0) ?_
            refine qv_sub (L' := [(5, _), (4, _), (0, _), (1, _), (2, _), (3, _)]) [2, 0, 3, 4, 5, 6] rfl ?_
            refine qv_iinc (L' := [(5, _), (4, _), (0, _), (1, _), (2, _), (3, _)]) F _ d_M_holdMore_93 0 rfl (ii_1 _) (by decide) rfl ?_
            refine qv_goto F d_M_holdMore_96 rfl ?_
            exact ih
          ·
            have hb : ¬ q (2 * h + f) ||| x = q (2 * h + f) := hb
            rw [e1] at hb
            rw [if_neg hb] at ih
            refine qv_iconst F (nI 1) d_M_holdMore_73 ic_1 ?_
            refine qv_goto F d_M_holdMore_74 rfl ?_
            refine qv_istore (L' := [(4, _), (6, _), (5, _), (0, _), (1, _), (2, _), (3, _)]) F d_M_holdMore_78 (by decide) rfl ?_
            refine qv_aload_n F d_M_holdMore_80 3 rfl ?_
            refine g_M_65 F d_M_holdMore_81 ?_
            refine qv_iconst F (nI 2) d_M_holdMore_84 ic_2 ?_
            refine qv_iload F d_M_holdMore_85 2 rfl ?_
            refine qv_imul F d_M_holdMore_87 ?_
            refine qv_iload_n F d_M_holdMore_88 5 rfl ?_
            refine qv_iadd F d_M_holdMore_89 ?_
            refine qv_iload F d_M_holdMore_90 1 rfl ?_
            refine sv_47 F (by omega) d_M_holdMore_92 ?_
            refine qv_st (e2 1) ?_
            refine qv_sub (L' := [(5, _), (4, _), (0, _), (1, _), (2, _), (3, _)]) [2, 0, 3, 4, 5, 6] rfl ?_
            refine qv_iinc (L' := [(5, _), (4, _), (0, _), (1, _), (2, _), (3, _)]) F _ d_M_holdMore_93 0 rfl (ii_1 _) (by decide) rfl ?_
            refine qv_goto F d_M_holdMore_96 rfl ?_
            exact ih
set_option maxRecDepth 100000 in
set_option maxHeartbeats 4000000 in
theorem c_M_follow (l : Launch) (X : wX) (σ : sg) (k c : Nat) (hk : k < 40) (hc : c < 8) (ht : tw_ (mo_ σ)) (h1 : B_ (mg_ σ 0)) : mt_ l X y_M_follow w_M_follow 2 [.ref (adr X 28), .int (nI k), .int (nI c)] σ (ei_ (nI (sx_ (mo_ σ) (ft_ (mo_ σ)) k c (mg_ σ 0)).2.2) (mr_ σ (sx_ (mo_ σ) (ft_ (mo_ σ)) k c (mg_ σ 0)))) := by
  refine mt_of (own := R_M) rfl pl_M (Nat.le_of_ble_eq_true rfl) ?_
  intro zp ze zs zm za zb zt zc F hr hlk
  refine qv_sub (L' := [(0, _), (1, _), (2, _)]) [0, 1, 2] rfl ?_
  have h5 : ∀ k, σ 29 k < 4 := ht.1
  have h6 : ∀ k, σ 30 k < 16 := ht.2.1
  have t7 : σ 31 k < 4 := ht.2.2.1 k
  have t8 : σ 32 k < 16 := ht.2.2.2.1 k
  have t9 : σ 33 k < 16 := ht.2.2.2.2.1 k
  have t10 : σ 34 k < 2 := ht.2.2.2.2.2.1 k
  have hfl : fl_ (sx_ (mo_ σ) (ft_ (mo_ σ)) k c (mg_ σ 0)) := sx_fl (Or.inl rfl)
  have h01 : nI (sx_ (mo_ σ) (ft_ (mo_ σ)) k c (mg_ σ 0)).2.2 = 0 ∨ nI (sx_ (mo_ σ) (ft_ (mo_ σ)) k c (mg_ σ 0)).2.2 = 1 := by rcases hfl with h | h <;> rw [h] <;> first | exact Or.inl rfl | exact Or.inr rfl
  have ec : 16 * c = c * 16 := by omega
  refine qv_aload_n F d_M_follow_0 0 rfl ?_
  refine g_M_19 F d_M_follow_1 ?_
  refine qv_iload_n F d_M_follow_4 1 rfl ?_
  refine ld_32 F (by omega) d_M_follow_5 ?_
  refine qv_istore_n (L' := [(3, _), (0, _), (1, _), (2, _)]) F d_M_follow_6 (by decide) rfl ?_
  refine qv_bipush F (nI 16) d_M_follow_7 bic_16 ?_
  refine qv_iload_n F d_M_follow_9 3 rfl ?_
  refine qv_imul F d_M_follow_10 ?_
  refine qv_istore (L' := [(4, _), (3, _), (0, _), (1, _), (2, _)]) F d_M_follow_11 (by decide) rfl ?_
  refine qv_aload_n F d_M_follow_13 2 rfl ?_
  refine g_M_16 F d_M_follow_14 ?_
  refine qv_iload_n F d_M_follow_17 3 rfl ?_
  refine ld_31 F (by omega) d_M_follow_18 ?_
  rcases (by omega : σ 31 k = 0 ∨ σ 31 k = 1 ∨ σ 31 k = 2 ∨ σ 31 k = 3) with q | q | q | q
  · have q2 : sx_ (mo_ σ) (ft_ (mo_ σ)) k c (mg_ σ 0) = ad_ (ft_ (mo_ σ)) c (σ 32 k) (1 * 2 ^ σ 33 k) (mg_ σ 0) := by unfold sx_; rw [if_pos (show mo_ σ 7 k = 0 from q)]; rfl
    have hp : 1 * 2 ^ σ 33 k < 2 ^ 32 := by rw [Nat.one_mul]; exact Nat.pow_lt_pow_right (by decide) (by omega)
    rw [q2] at h01 ⊢
    rw [q]
    refine qv_tsw F d_M_follow_19 (by decide) (by decide) (by decide) (off := 25) (tgt := 44) rfl rfl ?_
    refine qv_aload_n F d_M_follow_44 2 rfl ?_
    refine qv_iload_n F d_M_follow_45 4 rfl ?_
    refine qv_iload_n F d_M_follow_46 1 rfl ?_
    refine qv_iconst F (nI 1) d_M_follow_47 ic_1 ?_
    refine qv_aload_n F d_M_follow_48 2 rfl ?_
    refine g_M_22 F d_M_follow_49 ?_
    refine qv_iload_n F d_M_follow_52 3 rfl ?_
    refine ld_33 F (by omega) d_M_follow_53 ?_
    refine qv_ishl F d_M_follow_54 (by omega) hp ?_
    refine i_M_104i F (c_M_more l X σ c (σ 32 k) (1 * 2 ^ σ 33 k) hc t8 h1.1 h5 h6) (by decide) (Nat.le_of_ble_eq_true rfl) d_M_follow_55 ?_
    exact qv_zret F hr hlk h01 d_M_follow_58 (ei_of rfl rfl)
  · have q2 : sx_ (mo_ σ) (ft_ (mo_ σ)) k c (mg_ σ 0) = ad_ (ft_ (mo_ σ)) c (σ 32 k) (σ 46 (c * 16 + σ 33 k)) (mg_ σ 0) := by unfold sx_; rw [if_neg (show ¬ mo_ σ 7 k = 0 by show ¬ σ 31 k = 0; omega), if_pos (show mo_ σ 7 k = 1 from q)]; rfl
    rw [q2] at h01 ⊢
    rw [q]
    refine qv_tsw F d_M_follow_19 (by decide) (by decide) (by decide) (off := 40) (tgt := 59) rfl rfl ?_
    refine qv_aload_n F d_M_follow_59 2 rfl ?_
    refine qv_iload_n F d_M_follow_60 4 rfl ?_
    refine qv_iload_n F d_M_follow_61 1 rfl ?_
    refine qv_aload_n F d_M_follow_62 2 rfl ?_
    refine g_M_62 F d_M_follow_63 ?_
    refine qv_iload F d_M_follow_66 0 rfl ?_
    refine qv_aload_n F d_M_follow_68 2 rfl ?_
    refine g_M_22 F d_M_follow_69 ?_
    refine qv_iload_n F d_M_follow_72 3 rfl ?_
    refine ld_33 F (by omega) d_M_follow_73 ?_
    refine qv_iadd F d_M_follow_74 ?_
    refine ld_46 F (by omega) d_M_follow_75 ?_
    rw [ec]
    refine i_M_104i F (c_M_more l X σ c (σ 32 k) (σ 46 (c * 16 + σ 33 k)) hc t8 h1.1 h5 h6) (by decide) (Nat.le_of_ble_eq_true rfl) d_M_follow_76 ?_
    exact qv_zret F hr hlk h01 d_M_follow_79 (ei_of rfl rfl)
  · have q2 : sx_ (mo_ σ) (ft_ (mo_ σ)) k c (mg_ σ 0) = hs_ (σ 46 (c * 16 + σ 32 k)) (σ 34 k) (σ 46 (c * 16 + σ 33 k)) 8 (mg_ σ 0) := by unfold sx_; rw [if_neg (show ¬ mo_ σ 7 k = 0 by show ¬ σ 31 k = 0; omega), if_neg (show ¬ mo_ σ 7 k = 1 by show ¬ σ 31 k = 1; omega), if_pos (show mo_ σ 7 k = 2 from q)]; rfl
    rw [q2] at h01 ⊢
    rw [q]
    refine qv_tsw F d_M_follow_19 (by decide) (by decide) (by decide) (off := 61) (tgt := 80) rfl rfl ?_
    refine qv_aload_n F d_M_follow_80 2 rfl ?_
    refine qv_aload_n F d_M_follow_81 2 rfl ?_
    refine g_M_62 F d_M_follow_82 ?_
    refine qv_iload F d_M_follow_85 0 rfl ?_
    refine qv_iload_n F d_M_follow_87 1 rfl ?_
    refine qv_iadd F d_M_follow_88 ?_
    refine ld_46 F (by omega) d_M_follow_89 ?_
    refine qv_aload_n F d_M_follow_90 2 rfl ?_
    refine g_M_25 F d_M_follow_91 ?_
    refine qv_iload_n F d_M_follow_94 3 rfl ?_
    refine ld_34 F (by omega) d_M_follow_95 ?_
    refine qv_aload_n F d_M_follow_96 2 rfl ?_
    refine g_M_62 F d_M_follow_97 ?_
    refine qv_iload F d_M_follow_100 0 rfl ?_
    refine qv_aload_n F d_M_follow_102 2 rfl ?_
    refine g_M_22 F d_M_follow_103 ?_
    refine qv_iload_n F d_M_follow_106 3 rfl ?_
    refine ld_33 F (by omega) d_M_follow_107 ?_
    refine qv_iadd F d_M_follow_108 ?_
    refine ld_46 F (by omega) d_M_follow_109 ?_
    rw [ec]
    refine i_M_108i F (c_M_holdMore l X σ (σ 46 (c * 16 + σ 32 k)) (σ 34 k) (σ 46 (c * 16 + σ 33 k)) (h1.1 _) t10 (h1.1 _) h1.2 h1.1) (by decide) (Nat.le_of_ble_eq_true rfl) d_M_follow_110 ?_
    exact qv_zret F hr hlk h01 d_M_follow_113 (ei_of rfl rfl)
  · have q2 : sx_ (mo_ σ) (ft_ (mo_ σ)) k c (mg_ σ 0) = ad_ (ft_ (mo_ σ)) c (σ 32 k) (ha_ (σ 47) (σ 46 (c * 16 + σ 33 k)) (σ 34 k) 8) (mg_ σ 0) := by unfold sx_; rw [if_neg (show ¬ mo_ σ 7 k = 0 by show ¬ σ 31 k = 0; omega), if_neg (show ¬ mo_ σ 7 k = 1 by show ¬ σ 31 k = 1; omega), if_neg (show ¬ mo_ σ 7 k = 2 by show ¬ σ 31 k = 2; omega)]; rfl
    rw [q2] at h01 ⊢
    rw [q]
    refine qv_tswO F d_M_follow_19 (by decide) (by decide) (tgt := 114) rfl ?_
    refine qv_aload_n F d_M_follow_114 2 rfl ?_
    refine qv_aload_n F d_M_follow_115 2 rfl ?_
    refine g_M_62 F d_M_follow_116 ?_
    refine qv_iload F d_M_follow_119 0 rfl ?_
    refine qv_aload_n F d_M_follow_121 2 rfl ?_
    refine g_M_22 F d_M_follow_122 ?_
    refine qv_iload_n F d_M_follow_125 3 rfl ?_
    refine ld_33 F (by omega) d_M_follow_126 ?_
    refine qv_iadd F d_M_follow_127 ?_
    refine ld_46 F (by omega) d_M_follow_128 ?_
    refine qv_aload_n F d_M_follow_129 2 rfl ?_
    refine g_M_25 F d_M_follow_130 ?_
    refine qv_iload_n F d_M_follow_133 3 rfl ?_
    refine ld_34 F (by omega) d_M_follow_134 ?_
    rw [ec]
    refine i_M_111i F (c_M_held l X σ (σ 46 (c * 16 + σ 33 k)) (σ 34 k) (h1.1 _) t10) (by decide) (Nat.le_of_ble_eq_true rfl) d_M_follow_135 ?_
    refine qv_istore (L' := [(5, _), (4, _), (3, _), (0, _), (1, _), (2, _)]) F d_M_follow_138 (by decide) rfl ?_
    refine qv_aload_n F d_M_follow_140 3 rfl ?_
    refine qv_iload_n F d_M_follow_141 5 rfl ?_
    refine qv_iload_n F d_M_follow_142 2 rfl ?_
    refine qv_iload F d_M_follow_143 0 rfl ?_
    refine i_M_104i F (c_M_more l X σ c (σ 32 k) (ha_ (σ 47) (σ 46 (c * 16 + σ 33 k)) (σ 34 k) 8) hc t8 h1.1 h5 h6) (by decide) (Nat.le_of_ble_eq_true rfl) d_M_follow_145 ?_
    exact qv_zret F hr hlk h01 d_M_follow_148 (ei_of rfl rfl)
end
section
theorem fg_1 (e : Nat) : (if e = 0 then 1 else 1) = 1 := by by_cases z : e = 0; rw [if_pos z]; rw [if_neg z]
/-- the flag, where a step's own flag is known -/
theorem fq_use {f : rs_ → rs_} (h : fq_ f) (s : rs_) : f s = ((f (s.1, s.2.1, 0)).1, (f (s.1, s.2.1, 0)).2.1, if (f (s.1, s.2.1, 0)).2.2 = 0 then s.2.2 else 1) := h s.1 s.2.1 s.2.2
theorem S5_cg {t t' : sg} (h11 : t 11 = t' 11) (h12 : t 12 = t' 12) : S5_ t = S5_ t' := by
  funext C nc
  unfold S5_ f2_
  rw [br_cg h11 h12]
theorem gd_S5 {t : sg} {nc : Nat} (h : ok_ t (cr_ t nc) nc) : gd_ (S5_ t (cr_ t nc) nc) = gd_ (so_ t (cr_ t nc) nc) := by
  rw [Bool.eq_iff_iff]
  constructor
  · intro q
    refine gd_t (fun k hk => ?_)
    have h1 := gd_of q k hk
    have h2 : S5_ t (cr_ t nc) nc k = min 9 (so_ t (cr_ t nc) nc k) := sn_2 h _ hk
    omega
  · intro q
    refine gd_t (fun k hk => ?_)
    have h1 := gd_of q k hk
    have h2 : S5_ t (cr_ t nc) nc k = min 9 (so_ t (cr_ t nc) nc k) := sn_2 h _ hk
    omega
theorem S5_so {t : sg} {nc : Nat} (h : ok_ t (cr_ t nc) nc) (hg : gd_ (so_ t (cr_ t nc) nc) = true) {k : Nat} (hk : k < 4) : S5_ t (cr_ t nc) nc k = so_ t (cr_ t nc) nc k := by
  have h1 := gd_of hg k hk
  have h2 : S5_ t (cr_ t nc) nc k = min 9 (so_ t (cr_ t nc) nc k) := sn_2 h _ hk
  omega
/-- the reference's cells behind a good numbering, behind a refused one -/
def mn2_ (σ : sg) : sg := ua (ua σ 41 (rch_ (cr_ (mo_ σ) (σ 28 7)))) 42 (S5_ (mo_ σ) (cr_ (mo_ σ) (σ 28 7)) (σ 28 7))
def my0_ (σ : sg) (b s : Nat → Nat) : sg := ua (ua (ua (mn2_ σ) 43 (ct2_ (mo_ σ) (σ 28 7))) 44 b) 45 s
def my_ (σ : sg) : sg := us (my0_ σ (fb_ (mo_ σ) (σ 28 7) (σ 44)) (fun k => if k < σ 28 7 then σ 35 k else σ 45 k)) 28 17 (σ 28 7)
theorem my_b (σ : sg) (b s : Nat → Nat) (i x y : Nat) : us (us (my0_ σ b s) 44 i x) 45 i y = my0_ σ (va_up b i x) (va_up s i y) := by
  funext c
  unfold us my0_
  by_cases h45 : c = 45
  · subst h45; rw [ua_eq, ua_eq]; rfl
  · rw [ua_ne h45, ua_ne h45]
    by_cases h44 : c = 44
    · subst h44; rw [ua_eq, ua_eq]; rfl
    · rw [ua_ne h44, ua_ne h44, ua_ne h45, ua_ne h44]
theorem my_0 (σ : sg) : ua (mn2_ σ) 43 (ct2_ (mo_ σ) (σ 28 7)) = my0_ σ (σ 44) (σ 45) := by
  funext c
  unfold my0_
  by_cases h45 : c = 45
  · subst h45; rw [ua_eq]; rfl
  · rw [ua_ne h45]
    by_cases h44 : c = 44
    · subst h44; rw [ua_eq]; rfl
    · rw [ua_ne h44]
theorem mr_z (σ : sg) (p h : Nat → Nat) (g : Nat) : ua (ua σ 46 p) 47 h = mr_ σ (p, h, g) := rfl
end
section
abbrev b_M_carry : ByteArray := prog_7_method_23_code
def y_M_carry : MethodName := ⟨R_M, "carry", "(II)Z"⟩
abbrev w_M_carry : List Cond := wz_ y_M_carry b_M_carry 9 (some .boolean)
abbrev b_M_round : ByteArray := prog_7_method_24_code
def y_M_round : MethodName := ⟨R_M, "round", "()Z"⟩
abbrev w_M_round : List Cond := wz_ y_M_round b_M_round 5 (some .boolean)
end
section
theorem d_M_carry_0 : decode b_M_carry 0 = .ok (.iconst 0, 1) := by decide +kernel
theorem d_M_carry_1 : decode b_M_carry 1 = .ok (.istore_n 3, 1) := by decide +kernel
theorem d_M_carry_2 : decode b_M_carry 2 = .ok (.aload_n 0, 1) := by decide +kernel
theorem d_M_carry_3 : decode b_M_carry 3 = .ok (.getfield 56, 3) := by decide +kernel
theorem d_M_carry_6 : decode b_M_carry 6 = .ok (.iload_n 1, 1) := by decide +kernel
theorem d_M_carry_7 : decode b_M_carry 7 = .ok (.iaload, 1) := by decide +kernel
theorem d_M_carry_8 : decode b_M_carry 8 = .ok (.iload_n 2, 1) := by decide +kernel
theorem d_M_carry_9 : decode b_M_carry 9 = .ok (.iadd, 1) := by decide +kernel
theorem d_M_carry_10 : decode b_M_carry 10 = .ok (.istore 4, 2) := by decide +kernel
theorem d_M_carry_12 : decode b_M_carry 12 = .ok (.iconst 4, 1) := by decide +kernel
theorem d_M_carry_13 : decode b_M_carry 13 = .ok (.iload_n 1, 1) := by decide +kernel
theorem d_M_carry_14 : decode b_M_carry 14 = .ok (.imul, 1) := by decide +kernel
theorem d_M_carry_15 : decode b_M_carry 15 = .ok (.istore 5, 2) := by decide +kernel
theorem d_M_carry_17 : decode b_M_carry 17 = .ok (.iload 5, 2) := by decide +kernel
theorem d_M_carry_19 : decode b_M_carry 19 = .ok (.iconst 4, 1) := by decide +kernel
theorem d_M_carry_20 : decode b_M_carry 20 = .ok (.iload_n 1, 1) := by decide +kernel
theorem d_M_carry_21 : decode b_M_carry 21 = .ok (.imul, 1) := by decide +kernel
theorem d_M_carry_22 : decode b_M_carry 22 = .ok (.aload_n 0, 1) := by decide +kernel
theorem d_M_carry_23 : decode b_M_carry 23 = .ok (.getfield 34, 3) := by decide +kernel
theorem d_M_carry_26 : decode b_M_carry 26 = .ok (.iload_n 1, 1) := by decide +kernel
theorem d_M_carry_27 : decode b_M_carry 27 = .ok (.iaload, 1) := by decide +kernel
theorem d_M_carry_28 : decode b_M_carry 28 = .ok (.iadd, 1) := by decide +kernel
theorem d_M_carry_29 : decode b_M_carry 29 = .ok (.if_icmp .ge 93, 3) := by decide +kernel
theorem d_M_carry_32 : decode b_M_carry 32 = .ok (.aload_n 0, 1) := by decide +kernel
theorem d_M_carry_33 : decode b_M_carry 33 = .ok (.getfield 43, 3) := by decide +kernel
theorem d_M_carry_36 : decode b_M_carry 36 = .ok (.iload 5, 2) := by decide +kernel
theorem d_M_carry_38 : decode b_M_carry 38 = .ok (.baload, 1) := by decide +kernel
theorem d_M_carry_39 : decode b_M_carry 39 = .ok (.ifCond .eq 8, 3) := by decide +kernel
theorem d_M_carry_42 : decode b_M_carry 42 = .ok (.iload 4, 2) := by decide +kernel
theorem d_M_carry_44 : decode b_M_carry 44 = .ok (.goto 4, 3) := by decide +kernel
theorem d_M_carry_47 : decode b_M_carry 47 = .ok (.iload_n 2, 1) := by decide +kernel
theorem d_M_carry_48 : decode b_M_carry 48 = .ok (.istore 6, 2) := by decide +kernel
theorem d_M_carry_50 : decode b_M_carry 50 = .ok (.aload_n 0, 1) := by decide +kernel
theorem d_M_carry_51 : decode b_M_carry 51 = .ok (.getfield 43, 3) := by decide +kernel
theorem d_M_carry_54 : decode b_M_carry 54 = .ok (.iload 5, 2) := by decide +kernel
theorem d_M_carry_56 : decode b_M_carry 56 = .ok (.baload, 1) := by decide +kernel
theorem d_M_carry_57 : decode b_M_carry 57 = .ok (.ifCond .eq 7, 3) := by decide +kernel
theorem d_M_carry_60 : decode b_M_carry 60 = .ok (.iload_n 2, 1) := by decide +kernel
theorem d_M_carry_61 : decode b_M_carry 61 = .ok (.goto 5, 3) := by decide +kernel
theorem d_M_carry_64 : decode b_M_carry 64 = .ok (.iload 4, 2) := by decide +kernel
theorem d_M_carry_66 : decode b_M_carry 66 = .ok (.istore 7, 2) := by decide +kernel
theorem d_M_carry_68 : decode b_M_carry 68 = .ok (.aload_n 0, 1) := by decide +kernel
theorem d_M_carry_69 : decode b_M_carry 69 = .ok (.iload 7, 2) := by decide +kernel
theorem d_M_carry_71 : decode b_M_carry 71 = .ok (.aload_n 0, 1) := by decide +kernel
theorem d_M_carry_72 : decode b_M_carry 72 = .ok (.getfield 37, 3) := by decide +kernel
theorem d_M_carry_75 : decode b_M_carry 75 = .ok (.iload 5, 2) := by decide +kernel
theorem d_M_carry_77 : decode b_M_carry 77 = .ok (.iaload, 1) := by decide +kernel
theorem d_M_carry_78 : decode b_M_carry 78 = .ok (.aload_n 0, 1) := by decide +kernel
theorem d_M_carry_79 : decode b_M_carry 79 = .ok (.getfield 62, 3) := by decide +kernel
theorem d_M_carry_82 : decode b_M_carry 82 = .ok (.bipush 16, 2) := by decide +kernel
theorem d_M_carry_84 : decode b_M_carry 84 = .ok (.iload 6, 2) := by decide +kernel
theorem d_M_carry_86 : decode b_M_carry 86 = .ok (.imul, 1) := by decide +kernel
theorem d_M_carry_87 : decode b_M_carry 87 = .ok (.aload_n 0, 1) := by decide +kernel
theorem d_M_carry_88 : decode b_M_carry 88 = .ok (.getfield 40, 3) := by decide +kernel
theorem d_M_carry_91 : decode b_M_carry 91 = .ok (.iload 5, 2) := by decide +kernel
theorem d_M_carry_93 : decode b_M_carry 93 = .ok (.iaload, 1) := by decide +kernel
theorem d_M_carry_94 : decode b_M_carry 94 = .ok (.iadd, 1) := by decide +kernel
theorem d_M_carry_95 : decode b_M_carry 95 = .ok (.iaload, 1) := by decide +kernel
theorem d_M_carry_96 : decode b_M_carry 96 = .ok (.invokevirtual 104, 3) := by decide +kernel
theorem d_M_carry_99 : decode b_M_carry 99 = .ok (.istore 8, 2) := by decide +kernel
theorem d_M_carry_101 : decode b_M_carry 101 = .ok (.iload_n 3, 1) := by decide +kernel
theorem d_M_carry_102 : decode b_M_carry 102 = .ok (.ifCond .ne 8, 3) := by decide +kernel
theorem d_M_carry_105 : decode b_M_carry 105 = .ok (.iload 8, 2) := by decide +kernel
theorem d_M_carry_107 : decode b_M_carry 107 = .ok (.ifCond .eq 7, 3) := by decide +kernel
theorem d_M_carry_110 : decode b_M_carry 110 = .ok (.iconst 1, 1) := by decide +kernel
theorem d_M_carry_111 : decode b_M_carry 111 = .ok (.goto 4, 3) := by decide +kernel
theorem d_M_carry_114 : decode b_M_carry 114 = .ok (.iconst 0, 1) := by decide +kernel
theorem d_M_carry_115 : decode b_M_carry 115 = .ok (.istore_n 3, 1) := by decide +kernel
theorem d_M_carry_116 : decode b_M_carry 116 = .ok (.iinc 5 1, 3) := by decide +kernel
theorem d_M_carry_119 : decode b_M_carry 119 = .ok (.goto (-102), 3) := by decide +kernel
theorem d_M_carry_122 : decode b_M_carry 122 = .ok (.iload_n 3, 1) := by decide +kernel
theorem d_M_carry_123 : decode b_M_carry 123 = .ok (.ireturn, 1) := by decide +kernel
theorem d_M_round_0 : decode b_M_round 0 = .ok (.iconst 0, 1) := by decide +kernel
theorem d_M_round_1 : decode b_M_round 1 = .ok (.istore_n 1, 1) := by decide +kernel
theorem d_M_round_2 : decode b_M_round 2 = .ok (.iconst 0, 1) := by decide +kernel
theorem d_M_round_3 : decode b_M_round 3 = .ok (.istore_n 2, 1) := by decide +kernel
theorem d_M_round_4 : decode b_M_round 4 = .ok (.iload_n 2, 1) := by decide +kernel
theorem d_M_round_5 : decode b_M_round 5 = .ok (.aload_n 0, 1) := by decide +kernel
theorem d_M_round_6 : decode b_M_round 6 = .ok (.getfield 75, 3) := by decide +kernel
theorem d_M_round_9 : decode b_M_round 9 = .ok (.if_icmp .ge 57, 3) := by decide +kernel
theorem d_M_round_12 : decode b_M_round 12 = .ok (.iconst 0, 1) := by decide +kernel
theorem d_M_round_13 : decode b_M_round 13 = .ok (.istore_n 3, 1) := by decide +kernel
theorem d_M_round_14 : decode b_M_round 14 = .ok (.iload_n 3, 1) := by decide +kernel
theorem d_M_round_15 : decode b_M_round 15 = .ok (.aload_n 0, 1) := by decide +kernel
theorem d_M_round_16 : decode b_M_round 16 = .ok (.getfield 53, 3) := by decide +kernel
theorem d_M_round_19 : decode b_M_round 19 = .ok (.aload_n 0, 1) := by decide +kernel
theorem d_M_round_20 : decode b_M_round 20 = .ok (.getfield 19, 3) := by decide +kernel
theorem d_M_round_23 : decode b_M_round 23 = .ok (.iload_n 2, 1) := by decide +kernel
theorem d_M_round_24 : decode b_M_round 24 = .ok (.iaload, 1) := by decide +kernel
theorem d_M_round_25 : decode b_M_round 25 = .ok (.iconst 4, 1) := by decide +kernel
theorem d_M_round_26 : decode b_M_round 26 = .ok (.idiv, 1) := by decide +kernel
theorem d_M_round_27 : decode b_M_round 27 = .ok (.iaload, 1) := by decide +kernel
theorem d_M_round_28 : decode b_M_round 28 = .ok (.if_icmp .ge 32, 3) := by decide +kernel
theorem d_M_round_31 : decode b_M_round 31 = .ok (.aload_n 0, 1) := by decide +kernel
theorem d_M_round_32 : decode b_M_round 32 = .ok (.iload_n 2, 1) := by decide +kernel
theorem d_M_round_33 : decode b_M_round 33 = .ok (.iload_n 3, 1) := by decide +kernel
theorem d_M_round_34 : decode b_M_round 34 = .ok (.invokevirtual 114, 3) := by decide +kernel
theorem d_M_round_37 : decode b_M_round 37 = .ok (.istore 4, 2) := by decide +kernel
theorem d_M_round_39 : decode b_M_round 39 = .ok (.iload_n 1, 1) := by decide +kernel
theorem d_M_round_40 : decode b_M_round 40 = .ok (.ifCond .ne 8, 3) := by decide +kernel
theorem d_M_round_43 : decode b_M_round 43 = .ok (.iload 4, 2) := by decide +kernel
theorem d_M_round_45 : decode b_M_round 45 = .ok (.ifCond .eq 7, 3) := by decide +kernel
theorem d_M_round_48 : decode b_M_round 48 = .ok (.iconst 1, 1) := by decide +kernel
theorem d_M_round_49 : decode b_M_round 49 = .ok (.goto 4, 3) := by decide +kernel
theorem d_M_round_52 : decode b_M_round 52 = .ok (.iconst 0, 1) := by decide +kernel
theorem d_M_round_53 : decode b_M_round 53 = .ok (.istore_n 1, 1) := by decide +kernel
theorem d_M_round_54 : decode b_M_round 54 = .ok (.iinc 3 1, 3) := by decide +kernel
theorem d_M_round_57 : decode b_M_round 57 = .ok (.goto (-43), 3) := by decide +kernel
theorem d_M_round_60 : decode b_M_round 60 = .ok (.iinc 2 1, 3) := by decide +kernel
theorem d_M_round_63 : decode b_M_round 63 = .ok (.goto (-59), 3) := by decide +kernel
theorem d_M_round_66 : decode b_M_round 66 = .ok (.iconst 0, 1) := by decide +kernel
theorem d_M_round_67 : decode b_M_round 67 = .ok (.istore_n 2, 1) := by decide +kernel
theorem d_M_round_68 : decode b_M_round 68 = .ok (.iload_n 2, 1) := by decide +kernel
theorem d_M_round_69 : decode b_M_round 69 = .ok (.aload_n 0, 1) := by decide +kernel
theorem d_M_round_70 : decode b_M_round 70 = .ok (.getfield 86, 3) := by decide +kernel
theorem d_M_round_73 : decode b_M_round 73 = .ok (.if_icmp .ge 55, 3) := by decide +kernel
theorem d_M_round_76 : decode b_M_round 76 = .ok (.iconst 0, 1) := by decide +kernel
theorem d_M_round_77 : decode b_M_round 77 = .ok (.istore_n 3, 1) := by decide +kernel
theorem d_M_round_78 : decode b_M_round 78 = .ok (.iload_n 3, 1) := by decide +kernel
theorem d_M_round_79 : decode b_M_round 79 = .ok (.aload_n 0, 1) := by decide +kernel
theorem d_M_round_80 : decode b_M_round 80 = .ok (.getfield 53, 3) := by decide +kernel
theorem d_M_round_83 : decode b_M_round 83 = .ok (.aload_n 0, 1) := by decide +kernel
theorem d_M_round_84 : decode b_M_round 84 = .ok (.getfield 28, 3) := by decide +kernel
theorem d_M_round_87 : decode b_M_round 87 = .ok (.iload_n 2, 1) := by decide +kernel
theorem d_M_round_88 : decode b_M_round 88 = .ok (.iaload, 1) := by decide +kernel
theorem d_M_round_89 : decode b_M_round 89 = .ok (.iaload, 1) := by decide +kernel
theorem d_M_round_90 : decode b_M_round 90 = .ok (.if_icmp .ge 32, 3) := by decide +kernel
theorem d_M_round_93 : decode b_M_round 93 = .ok (.aload_n 0, 1) := by decide +kernel
theorem d_M_round_94 : decode b_M_round 94 = .ok (.iload_n 2, 1) := by decide +kernel
theorem d_M_round_95 : decode b_M_round 95 = .ok (.iload_n 3, 1) := by decide +kernel
theorem d_M_round_96 : decode b_M_round 96 = .ok (.invokevirtual 117, 3) := by decide +kernel
theorem d_M_round_99 : decode b_M_round 99 = .ok (.istore 4, 2) := by decide +kernel
theorem d_M_round_101 : decode b_M_round 101 = .ok (.iload_n 1, 1) := by decide +kernel
theorem d_M_round_102 : decode b_M_round 102 = .ok (.ifCond .ne 8, 3) := by decide +kernel
theorem d_M_round_105 : decode b_M_round 105 = .ok (.iload 4, 2) := by decide +kernel
theorem d_M_round_107 : decode b_M_round 107 = .ok (.ifCond .eq 7, 3) := by decide +kernel
theorem d_M_round_110 : decode b_M_round 110 = .ok (.iconst 1, 1) := by decide +kernel
theorem d_M_round_111 : decode b_M_round 111 = .ok (.goto 4, 3) := by decide +kernel
theorem d_M_round_114 : decode b_M_round 114 = .ok (.iconst 0, 1) := by decide +kernel
theorem d_M_round_115 : decode b_M_round 115 = .ok (.istore_n 1, 1) := by decide +kernel
theorem d_M_round_116 : decode b_M_round 116 = .ok (.iinc 3 1, 3) := by decide +kernel
theorem d_M_round_119 : decode b_M_round 119 = .ok (.goto (-41), 3) := by decide +kernel
theorem d_M_round_122 : decode b_M_round 122 = .ok (.iinc 2 1, 3) := by decide +kernel
theorem d_M_round_125 : decode b_M_round 125 = .ok (.goto (-57), 3) := by decide +kernel
theorem d_M_round_128 : decode b_M_round 128 = .ok (.iload_n 1, 1) := by decide +kernel
theorem d_M_round_129 : decode b_M_round 129 = .ok (.ireturn, 1) := by decide +kernel
end
section
section RW
variable {own : String} {p : Program} {l : Launch} {e : Env} {R : Room} {s : State} {m : MethodId} {args : Array Value} {below : List Frame} {meth : Method} {c : Code} {Q : State → Prop} {X : wX} {nL : Nat} {L : List (Nat × Value)} {σ : sg} {pc : Nat} {st : List Value} {cc : ByteArray}
theorem i_M_114i (F : fx_ p s m args c cc nL R_M X) {v0 v1 : Value} {rest : List Value} {d : Nat} {z : Int32} {τ : sg} (hM : mt_ l X y_M_follow w_M_follow d [.ref (adr X 28), v0, v1] σ (ei_ z τ)) (hR : d + 1 ≤ R.frames ∧ 8 + (6 + 11) + 30 * d ≤ R.locals) (hw : (rest.map fun v => v.category).sum ≤ 8) (hd : decode cc pc = .ok (.invokevirtual 114, 3)) (k : vv_ p l e R s m args below meth c Q X nL L τ (pc + 3) (.int z :: rest)) : vv_ p l e R s m args below meth c Q X nL L σ pc (v1 :: v0 :: .ref (adr X 28) :: rest) :=
  qv_callV F (maxL := 6) (ret := (some .boolean)) (n := 2) (as := [v0, v1]) (rest := rest) 28 rfl rfl (by decide +kernel) (by decide +kernel) (by decide +kernel) (by decide +kernel) (by decide +kernel) (by decide +kernel) hM rfl hR hw hd (fun r τ' hp => by obtain ⟨rfl, rfl⟩ := hp; exact k)
theorem i_M_117i (F : fx_ p s m args c cc nL R_M X) {v0 v1 : Value} {rest : List Value} {d : Nat} {z : Int32} {τ : sg} (hM : mt_ l X y_M_carry w_M_carry d [.ref (adr X 28), v0, v1] σ (ei_ z τ)) (hR : d + 1 ≤ R.frames ∧ 8 + (9 + 11) + 30 * d ≤ R.locals) (hw : (rest.map fun v => v.category).sum ≤ 8) (hd : decode cc pc = .ok (.invokevirtual 117, 3)) (k : vv_ p l e R s m args below meth c Q X nL L τ (pc + 3) (.int z :: rest)) : vv_ p l e R s m args below meth c Q X nL L σ pc (v1 :: v0 :: .ref (adr X 28) :: rest) :=
  qv_callV F (maxL := 9) (ret := (some .boolean)) (n := 2) (as := [v0, v1]) (rest := rest) 28 rfl rfl (by decide +kernel) (by decide +kernel) (by decide +kernel) (by decide +kernel) (by decide +kernel) (by decide +kernel) hM rfl hR hw hd (fun r τ' hp => by obtain ⟨rfl, rfl⟩ := hp; exact k)
end RW
end
section
/-! the reference: rounds and solve -/
set_option maxRecDepth 100000 in
set_option maxHeartbeats 4000000 in
theorem c_M_carry (l : Launch) (X : wX) (σ : sg) (k c : Nat) (hk : k < 8) (hc : c < 8) (hd0 : σ 44 k + c < 8) (ht : tw_ (mo_ σ)) (h1 : B_ (mg_ σ 0)) : mt_ l X y_M_carry w_M_carry 2 [.ref (adr X 28), .int (nI k), .int (nI c)] σ (ei_ (nI (pp_ (mo_ σ) (ft_ (mo_ σ)) k c (σ 44 k + c) (σ 37 k) (mg_ σ 0)).2.2) (mr_ σ (pp_ (mo_ σ) (ft_ (mo_ σ)) k c (σ 44 k + c) (σ 37 k) (mg_ σ 0)))) := by
  refine mt_of (own := R_M) rfl pl_M (Nat.le_of_ble_eq_true rfl) ?_
  intro zp ze zs zm za zb zt zc F hr hlk
  refine qv_sub (L' := [(0, _), (1, _), (2, _)]) [0, 1, 2] rfl ?_
  have t13 : σ 37 k ≤ 4 := ht.2.2.2.2.2.2.2.2.1 k
  have hw : ∀ k, ft_ (mo_ σ) k < 256 := ft_lt _
  refine qv_iconst F (nI 0) d_M_carry_0 ic_0 ?_
  refine qv_istore_n (L' := [(3, _), (0, _), (1, _), (2, _)]) F d_M_carry_1 (by decide) rfl ?_
  refine qv_aload_n F d_M_carry_2 1 rfl ?_
  refine g_M_56 F d_M_carry_3 ?_
  refine qv_iload_n F d_M_carry_6 2 rfl ?_
  refine ld_44 F (by omega) d_M_carry_7 ?_
  refine qv_iload_n F d_M_carry_8 3 rfl ?_
  refine qv_iadd F d_M_carry_9 ?_
  refine qv_istore (L' := [(4, _), (3, _), (0, _), (1, _), (2, _)]) F d_M_carry_10 (by decide) rfl ?_
  refine qv_iconst F (nI 4) d_M_carry_12 ic_4 ?_
  refine qv_iload_n F d_M_carry_13 3 rfl ?_
  refine qv_imul F d_M_carry_14 ?_
  refine qv_istore (L' := [(5, _), (4, _), (3, _), (0, _), (1, _), (2, _)]) F d_M_carry_15 (by decide) rfl ?_
  have lp := lu_up (fun j (_ : Unit) => vv_ zp l ze (rr_ 2) zs zm za zb zt zc (MQ zb (mq_ X (ei_ (nI (pp_ (mo_ σ) (ft_ (mo_ σ)) k c (σ 44 k + c) (σ 37 k) (mg_ σ 0)).2.2) (mr_ σ (pp_ (mo_ σ) (ft_ (mo_ σ)) k c (σ 44 k + c) (σ 37 k) (mg_ σ 0))))) za zs 0 0 (aw_ X)) X 9 [(5, .int (nI (4 * k + j))), (4, .int (nI (σ 44 k + c))), (3, .int (nI (pp_ (mo_ σ) (ft_ (mo_ σ)) k c (σ 44 k + c) j (mg_ σ 0)).2.2)), (0, .ref (adr X 28)), (1, .int (nI k)), (2, .int (nI c))] (mr_ σ (pp_ (mo_ σ) (ft_ (mo_ σ)) k c (σ 44 k + c) j (mg_ σ 0))) 17 []) (fun _ _ => True) (σ 37 k) ?_ ?_ 0 () (Nat.zero_le _) trivial
  · exact qv_st (mr_mg σ 0).symm lp
  · intro _ _
    have hfl : fl_ (pp_ (mo_ σ) (ft_ (mo_ σ)) k c (σ 44 k + c) (σ 37 k) (mg_ σ 0)) := pp_fl (Or.inl rfl)
    refine qv_iload F d_M_carry_17 0 rfl ?_
    refine qv_iconst F (nI 4) d_M_carry_19 ic_4 ?_
    refine qv_iload_n F d_M_carry_20 4 rfl ?_
    refine qv_imul F d_M_carry_21 ?_
    refine qv_aload_n F d_M_carry_22 3 rfl ?_
    refine g_M_34 F d_M_carry_23 ?_
    refine qv_iload_n F d_M_carry_26 4 rfl ?_
    refine ld_37 F (show k < 8 by omega) d_M_carry_27 ?_
    refine qv_iadd F d_M_carry_28 ?_
    refine qv_icmpge F d_M_carry_29 rfl (by omega) (show 4 * k + σ 37 k < 2 ^ 31 by omega) (fun hb => ?_) (fun hb => ?_)
    ·
      refine qv_iload_n F d_M_carry_122 2 rfl ?_
      exact qv_zret F hr hlk (by rcases hfl with h | h <;> rw [h] <;> first | exact Or.inl rfl | exact Or.inr rfl) d_M_carry_123 (ei_of rfl rfl)
    ·
      exact absurd (show 4 * k + σ 37 k < 4 * k + σ 37 k from hb) (by omega)
  · intro j _ hj _ ih
    have ih := ih () trivial
    have ek : k * 4 + j = 4 * k + j := by omega
    have e1 : pp_ (mo_ σ) (ft_ (mo_ σ)) k c (σ 44 k + c) (j + 1) (mg_ σ 0) = pa_ (mo_ σ) (ft_ (mo_ σ)) c (σ 44 k + c) (k * 4 + j) (pp_ (mo_ σ) (ft_ (mo_ σ)) k c (σ 44 k + c) j (mg_ σ 0)) := rfl
    rw [e1, ek] at ih
    have t14 : σ 38 (4 * k + j) < 16 := ht.2.2.2.2.2.2.2.2.2.1 (4 * k + j)
    have t15 : σ 39 (4 * k + j) < 16 := ht.2.2.2.2.2.2.2.2.2.2.1 (4 * k + j)
    have t16 : σ 40 (4 * k + j) < 2 := ht.2.2.2.2.2.2.2.2.2.2.2 (4 * k + j)
    have hB : B_ (pp_ (mo_ σ) (ft_ (mo_ σ)) k c (σ 44 k + c) j (mg_ σ 0)) := pp_B hw h1
    have hfl : fl_ (pp_ (mo_ σ) (ft_ (mo_ σ)) k c (σ 44 k + c) j (mg_ σ 0)) := pp_fl (Or.inl rfl)
    generalize pp_ (mo_ σ) (ft_ (mo_ σ)) k c (σ 44 k + c) j (mg_ σ 0) = r at ih hB hfl ⊢
    have efp := fq_use (fq_pa (t := mo_ σ) (w := ft_ (mo_ σ)) (c := c) (d := σ 44 k + c) (q := 4 * k + j)) r
    rw [efp] at ih
    have hfe : fl_ (pa_ (mo_ σ) (ft_ (mo_ σ)) c (σ 44 k + c) (4 * k + j) (r.1, r.2.1, 0)) := pa_fl (Or.inl rfl)
    have ew : ft_ (mo_ (mr_ σ r)) = ft_ (mo_ σ) := ft_cg rfl rfl
    have hfl : r.2.2 = 0 ∨ r.2.2 = 1 := hfl
    refine qv_iload F d_M_carry_17 0 rfl ?_
    refine qv_iconst F (nI 4) d_M_carry_19 ic_4 ?_
    refine qv_iload_n F d_M_carry_20 4 rfl ?_
    refine qv_imul F d_M_carry_21 ?_
    refine qv_aload_n F d_M_carry_22 3 rfl ?_
    refine g_M_34 F d_M_carry_23 ?_
    refine qv_iload_n F d_M_carry_26 4 rfl ?_
    refine ld_37 F (show k < 8 by omega) d_M_carry_27 ?_
    refine qv_iadd F d_M_carry_28 ?_
    refine qv_icmpge F d_M_carry_29 rfl (by omega) (show 4 * k + σ 37 k < 2 ^ 31 by omega) (fun hb => ?_) (fun hb => ?_)
    ·
      exact absurd (show 4 * k + σ 37 k ≤ 4 * k + j from hb) (by omega)
    ·
      refine qv_aload_n F d_M_carry_32 3 rfl ?_
      refine g_M_43 F d_M_carry_33 ?_
      refine qv_iload F d_M_carry_36 0 rfl ?_
      refine ld_40 F (by omega) d_M_carry_38 ?_
      refine qv_ifeq F d_M_carry_39 rfl (show σ 40 (4 * k + j) < 2 ^ 31 by omega) (fun hb => ?_) (fun hb => ?_)
      ·
        have hz : σ 40 (4 * k + j) = 0 := hb
        have ep : pa_ (mo_ σ) (ft_ (mo_ σ)) c (σ 44 k + c) (4 * k + j) (r.1, r.2.1, 0) = ad_ (ft_ (mo_ σ)) (σ 44 k + c) (σ 38 (4 * k + j)) (r.1 (c * 16 + σ 39 (4 * k + j))) (r.1, r.2.1, 0) := by unfold pa_; rw [if_pos (show mo_ σ 16 (4 * k + j) = 0 from hz)]; rfl
        refine qv_iload_n F d_M_carry_47 5 rfl ?_
        refine qv_istore (L' := [(6, _), (5, _), (4, _), (3, _), (0, _), (1, _), (2, _)]) F d_M_carry_48 (by decide) rfl ?_
        refine qv_aload_n F d_M_carry_50 4 rfl ?_
        refine g_M_43 F d_M_carry_51 ?_
        refine qv_iload F d_M_carry_54 1 rfl ?_
        refine ld_40 F (by omega) d_M_carry_56 ?_
        refine qv_ifeq F d_M_carry_57 rfl (show σ 40 (4 * k + j) < 2 ^ 31 by omega) (fun hb => ?_) (fun hb => ?_)
        ·
          refine qv_iload F d_M_carry_64 2 rfl ?_
          refine qv_istore (L' := [(7, _), (6, _), (5, _), (4, _), (3, _), (0, _), (1, _), (2, _)]) F d_M_carry_66 (by decide) rfl ?_
          refine qv_aload_n F d_M_carry_68 5 rfl ?_
          refine qv_iload F d_M_carry_69 0 rfl ?_
          refine qv_aload_n F d_M_carry_71 5 rfl ?_
          refine g_M_37 F d_M_carry_72 ?_
          refine qv_iload F d_M_carry_75 2 rfl ?_
          refine ld_38 F (by omega) d_M_carry_77 ?_
          refine qv_aload_n F d_M_carry_78 5 rfl ?_
          refine g_M_62 F d_M_carry_79 ?_
          refine qv_bipush F (nI 16) d_M_carry_82 bic_16 ?_
          refine qv_iload F d_M_carry_84 1 rfl ?_
          refine qv_imul F d_M_carry_86 ?_
          refine qv_aload_n F d_M_carry_87 5 rfl ?_
          refine g_M_40 F d_M_carry_88 ?_
          refine qv_iload F d_M_carry_91 2 rfl ?_
          refine ld_39 F (by omega) d_M_carry_93 ?_
          refine qv_iadd F d_M_carry_94 ?_
          refine ld_46 F (show 16 * c + σ 39 (4 * k + j) < 128 by omega) d_M_carry_95 ?_
          have ec : 16 * c = c * 16 := by omega
          rw [ec]
          refine i_M_104i F (c_M_more l X (mr_ σ r) (σ 44 k + c) (σ 38 (4 * k + j)) (r.1 (c * 16 + σ 39 (4 * k + j))) hd0 t14 hB.1 ht.1 ht.2.1) (by decide) (Nat.le_of_ble_eq_true rfl) d_M_carry_96 ?_
          rw [ew, mr_mr]
          refine qv_st (σ' := mr_ σ (pa_ (mo_ σ) (ft_ (mo_ σ)) c (σ 44 k + c) (4 * k + j) (r.1, r.2.1, 0))) (by rw [ep]; rfl) ?_
          refine qv_stk (st' := [.int (nI (pa_ (mo_ σ) (ft_ (mo_ σ)) c (σ 44 k + c) (4 * k + j) (r.1, r.2.1, 0)).2.2)]) (by rw [ep]; rfl) ?_
          generalize pa_ (mo_ σ) (ft_ (mo_ σ)) c (σ 44 k + c) (4 * k + j) (r.1, r.2.1, 0) = u at ih hfe ⊢
          have hfe : u.2.2 = 0 ∨ u.2.2 = 1 := hfe
          refine qv_istore (L' := [(8, _), (7, _), (6, _), (5, _), (4, _), (3, _), (0, _), (1, _), (2, _)]) F d_M_carry_99 (by decide) rfl ?_
          refine qv_iload_n F d_M_carry_101 5 rfl ?_
          refine qv_ifne F d_M_carry_102 rfl (by omega) (fun hb => ?_) (fun hb => ?_)
          ·
            rw [show r.2.2 = 1 by omega, fg_1] at ih
            refine qv_iconst F (nI 1) d_M_carry_110 ic_1 ?_
            refine qv_goto F d_M_carry_111 rfl ?_
            refine qv_istore_n (L' := [(3, _), (8, _), (7, _), (6, _), (5, _), (4, _), (0, _), (1, _), (2, _)]) F d_M_carry_115 (by decide) rfl ?_
            refine qv_sub (L' := [(5, _), (4, _), (3, _), (0, _), (1, _), (2, _)]) [4, 5, 0, 6, 7, 8] rfl ?_
            refine qv_iinc (L' := [(5, _), (4, _), (3, _), (0, _), (1, _), (2, _)]) F _ d_M_carry_116 0 rfl (ii_1 _) (by decide) rfl ?_
            refine qv_goto F d_M_carry_119 rfl ?_
            exact ih
          ·
            have hg0 := hb
            rw [hg0] at ih
            refine qv_iload F d_M_carry_105 0 rfl ?_
            refine qv_ifeq F d_M_carry_107 rfl (by omega) (fun hb => ?_) (fun hb => ?_)
            ·
              rw [if_pos hb] at ih
              refine qv_iconst F (nI 0) d_M_carry_114 ic_0 ?_
              refine qv_istore_n (L' := [(3, _), (8, _), (7, _), (6, _), (5, _), (4, _), (0, _), (1, _), (2, _)]) F d_M_carry_115 (by decide) rfl ?_
              refine qv_sub (L' := [(5, _), (4, _), (3, _), (0, _), (1, _), (2, _)]) [4, 5, 0, 6, 7, 8] rfl ?_
              refine qv_iinc (L' := [(5, _), (4, _), (3, _), (0, _), (1, _), (2, _)]) F _ d_M_carry_116 0 rfl (ii_1 _) (by decide) rfl ?_
              refine qv_goto F d_M_carry_119 rfl ?_
              exact ih
            ·
              rw [if_neg hb] at ih
              refine qv_iconst F (nI 1) d_M_carry_110 ic_1 ?_
              refine qv_goto F d_M_carry_111 rfl ?_
              refine qv_istore_n (L' := [(3, _), (8, _), (7, _), (6, _), (5, _), (4, _), (0, _), (1, _), (2, _)]) F d_M_carry_115 (by decide) rfl ?_
              refine qv_sub (L' := [(5, _), (4, _), (3, _), (0, _), (1, _), (2, _)]) [4, 5, 0, 6, 7, 8] rfl ?_
              refine qv_iinc (L' := [(5, _), (4, _), (3, _), (0, _), (1, _), (2, _)]) F _ d_M_carry_116 0 rfl (ii_1 _) (by decide) rfl ?_
              refine qv_goto F d_M_carry_119 rfl ?_
              exact ih
        ·
          exact absurd hz hb
      ·
        have hz : ¬ σ 40 (4 * k + j) = 0 := hb
        have ep : pa_ (mo_ σ) (ft_ (mo_ σ)) c (σ 44 k + c) (4 * k + j) (r.1, r.2.1, 0) = ad_ (ft_ (mo_ σ)) c (σ 38 (4 * k + j)) (r.1 ((σ 44 k + c) * 16 + σ 39 (4 * k + j))) (r.1, r.2.1, 0) := by unfold pa_; rw [if_neg (show ¬ mo_ σ 16 (4 * k + j) = 0 from hz)]; rfl
        refine qv_iload F d_M_carry_42 1 rfl ?_
        refine qv_goto F d_M_carry_44 rfl ?_
        refine qv_istore (L' := [(6, _), (5, _), (4, _), (3, _), (0, _), (1, _), (2, _)]) F d_M_carry_48 (by decide) rfl ?_
        refine qv_aload_n F d_M_carry_50 4 rfl ?_
        refine g_M_43 F d_M_carry_51 ?_
        refine qv_iload F d_M_carry_54 1 rfl ?_
        refine ld_40 F (by omega) d_M_carry_56 ?_
        refine qv_ifeq F d_M_carry_57 rfl (show σ 40 (4 * k + j) < 2 ^ 31 by omega) (fun hb => ?_) (fun hb => ?_)
        ·
          exact absurd hb hz
        ·
          refine qv_iload_n F d_M_carry_60 6 rfl ?_
          refine qv_goto F d_M_carry_61 rfl ?_
          refine qv_istore (L' := [(7, _), (6, _), (5, _), (4, _), (3, _), (0, _), (1, _), (2, _)]) F d_M_carry_66 (by decide) rfl ?_
          refine qv_aload_n F d_M_carry_68 5 rfl ?_
          refine qv_iload F d_M_carry_69 0 rfl ?_
          refine qv_aload_n F d_M_carry_71 5 rfl ?_
          refine g_M_37 F d_M_carry_72 ?_
          refine qv_iload F d_M_carry_75 2 rfl ?_
          refine ld_38 F (by omega) d_M_carry_77 ?_
          refine qv_aload_n F d_M_carry_78 5 rfl ?_
          refine g_M_62 F d_M_carry_79 ?_
          refine qv_bipush F (nI 16) d_M_carry_82 bic_16 ?_
          refine qv_iload F d_M_carry_84 1 rfl ?_
          refine qv_imul F d_M_carry_86 ?_
          refine qv_aload_n F d_M_carry_87 5 rfl ?_
          refine g_M_40 F d_M_carry_88 ?_
          refine qv_iload F d_M_carry_91 2 rfl ?_
          refine ld_39 F (by omega) d_M_carry_93 ?_
          refine qv_iadd F d_M_carry_94 ?_
          refine ld_46 F (show 16 * (σ 44 k + c) + σ 39 (4 * k + j) < 128 by omega) d_M_carry_95 ?_
          have ec : 16 * (σ 44 k + c) = (σ 44 k + c) * 16 := by omega
          rw [ec]
          refine i_M_104i F (c_M_more l X (mr_ σ r) c (σ 38 (4 * k + j)) (r.1 ((σ 44 k + c) * 16 + σ 39 (4 * k + j))) hc t14 hB.1 ht.1 ht.2.1) (by decide) (Nat.le_of_ble_eq_true rfl) d_M_carry_96 ?_
          rw [ew, mr_mr]
          refine qv_st (σ' := mr_ σ (pa_ (mo_ σ) (ft_ (mo_ σ)) c (σ 44 k + c) (4 * k + j) (r.1, r.2.1, 0))) (by rw [ep]; rfl) ?_
          refine qv_stk (st' := [.int (nI (pa_ (mo_ σ) (ft_ (mo_ σ)) c (σ 44 k + c) (4 * k + j) (r.1, r.2.1, 0)).2.2)]) (by rw [ep]; rfl) ?_
          generalize pa_ (mo_ σ) (ft_ (mo_ σ)) c (σ 44 k + c) (4 * k + j) (r.1, r.2.1, 0) = u at ih hfe ⊢
          have hfe : u.2.2 = 0 ∨ u.2.2 = 1 := hfe
          refine qv_istore (L' := [(8, _), (7, _), (6, _), (5, _), (4, _), (3, _), (0, _), (1, _), (2, _)]) F d_M_carry_99 (by decide) rfl ?_
          refine qv_iload_n F d_M_carry_101 5 rfl ?_
          refine qv_ifne F d_M_carry_102 rfl (by omega) (fun hb => ?_) (fun hb => ?_)
          ·
            rw [show r.2.2 = 1 by omega, fg_1] at ih
            refine qv_iconst F (nI 1) d_M_carry_110 ic_1 ?_
            refine qv_goto F d_M_carry_111 rfl ?_
            refine qv_istore_n (L' := [(3, _), (8, _), (7, _), (6, _), (5, _), (4, _), (0, _), (1, _), (2, _)]) F d_M_carry_115 (by decide) rfl ?_
            refine qv_sub (L' := [(5, _), (4, _), (3, _), (0, _), (1, _), (2, _)]) [4, 5, 0, 6, 7, 8] rfl ?_
            refine qv_iinc (L' := [(5, _), (4, _), (3, _), (0, _), (1, _), (2, _)]) F _ d_M_carry_116 0 rfl (ii_1 _) (by decide) rfl ?_
            refine qv_goto F d_M_carry_119 rfl ?_
            exact ih
          ·
            have hg0 := hb
            rw [hg0] at ih
            refine qv_iload F d_M_carry_105 0 rfl ?_
            refine qv_ifeq F d_M_carry_107 rfl (by omega) (fun hb => ?_) (fun hb => ?_)
            ·
              rw [if_pos hb] at ih
              refine qv_iconst F (nI 0) d_M_carry_114 ic_0 ?_
              refine qv_istore_n (L' := [(3, _), (8, _), (7, _), (6, _), (5, _), (4, _), (0, _), (1, _), (2, _)]) F d_M_carry_115 (by decide) rfl ?_
              refine qv_sub (L' := [(5, _), (4, _), (3, _), (0, _), (1, _), (2, _)]) [4, 5, 0, 6, 7, 8] rfl ?_
              refine qv_iinc (L' := [(5, _), (4, _), (3, _), (0, _), (1, _), (2, _)]) F _ d_M_carry_116 0 rfl (ii_1 _) (by decide) rfl ?_
              refine qv_goto F d_M_carry_119 rfl ?_
              exact ih
            ·
              rw [if_neg hb] at ih
              refine qv_iconst F (nI 1) d_M_carry_110 ic_1 ?_
              refine qv_goto F d_M_carry_111 rfl ?_
              refine qv_istore_n (L' := [(3, _), (8, _), (7, _), (6, _), (5, _), (4, _), (0, _), (1, _), (2, _)]) F d_M_carry_115 (by decide) rfl ?_
              refine qv_sub (L' := [(5, _), (4, _), (3, _), (0, _), (1, _), (2, _)]) [4, 5, 0, 6, 7, 8] rfl ?_
              refine qv_iinc (L' := [(5, _), (4, _), (3, _), (0, _), (1, _), (2, _)]) F _ d_M_carry_116 0 rfl (ii_1 _) (by decide) rfl ?_
              refine qv_goto F d_M_carry_119 rfl ?_
              exact ih
set_option maxRecDepth 100000 in
set_option maxHeartbeats 4000000 in
theorem c_M_round (l : Launch) (X : wX) (σ : sg) (hn : σ 28 2 ≤ 40) (hnc : σ 28 7 ≤ 8) (hm : ∀ k, σ 43 k ≤ 8) (hb0 : ∀ k, k < σ 28 7 → σ 44 k + σ 43 (σ 35 k) ≤ 8) (ht : tw_ (mo_ σ)) (h1 : B_ (mg_ σ 0)) : mt_ l X y_M_round w_M_round 3 [.ref (adr X 28)] σ (ei_ (nI (rd_ (mo_ σ) (ft_ (mo_ σ)) (σ 43) (σ 44) (σ 28 2) (σ 28 7) (mg_ σ 0)).2.2) (mr_ σ (rd_ (mo_ σ) (ft_ (mo_ σ)) (σ 43) (σ 44) (σ 28 2) (σ 28 7) (mg_ σ 0)))) := by
  refine mt_of (own := R_M) rfl pl_M (Nat.le_of_ble_eq_true rfl) ?_
  intro zp ze zs zm za zb zt zc F hr hlk
  refine qv_sub (L' := [(0, _)]) [0] rfl ?_
  have hw : ∀ k, ft_ (mo_ σ) k < 256 := ft_lt _
  refine qv_iconst F (nI 0) d_M_round_0 ic_0 ?_
  refine qv_istore_n (L' := [(1, _), (0, _)]) F d_M_round_1 (by decide) rfl ?_
  refine qv_iconst F (nI 0) d_M_round_2 ic_0 ?_
  refine qv_istore_n (L' := [(2, _), (1, _), (0, _)]) F d_M_round_3 (by decide) rfl ?_
  have lp := lu_up (fun k (_ : Unit) => vv_ zp l ze (rr_ 3) zs zm za zb zt zc (MQ zb (mq_ X (ei_ (nI (rd_ (mo_ σ) (ft_ (mo_ σ)) (σ 43) (σ 44) (σ 28 2) (σ 28 7) (mg_ σ 0)).2.2) (mr_ σ (rd_ (mo_ σ) (ft_ (mo_ σ)) (σ 43) (σ 44) (σ 28 2) (σ 28 7) (mg_ σ 0))))) za zs 0 0 (aw_ X)) X 5 [(2, .int (nI k)), (1, .int (nI (ss_ (mo_ σ) (ft_ (mo_ σ)) (σ 43) k (mg_ σ 0)).2.2)), (0, .ref (adr X 28))] (mr_ σ (ss_ (mo_ σ) (ft_ (mo_ σ)) (σ 43) k (mg_ σ 0))) 4 []) (fun _ _ => True) (σ 28 2) ?_ ?_ 0 () (Nat.zero_le _) trivial
  · exact qv_st (mr_mg σ 0).symm lp
  · intro _ _
    have hBs : B_ (ss_ (mo_ σ) (ft_ (mo_ σ)) (σ 43) (σ 28 2) (mg_ σ 0)) := ss_B hw h1
    have hfs : fl_ (ss_ (mo_ σ) (ft_ (mo_ σ)) (σ 43) (σ 28 2) (mg_ σ 0)) := ss_fl (Or.inl rfl)
    have er : rd_ (mo_ σ) (ft_ (mo_ σ)) (σ 43) (σ 44) (σ 28 2) (σ 28 7) (mg_ σ 0) = cs_ (mo_ σ) (ft_ (mo_ σ)) (σ 43) (σ 44) (σ 28 7) (ss_ (mo_ σ) (ft_ (mo_ σ)) (σ 43) (σ 28 2) (mg_ σ 0)) := rfl
    rw [er]
    generalize ss_ (mo_ σ) (ft_ (mo_ σ)) (σ 43) (σ 28 2) (mg_ σ 0) = s0 at hBs hfs ⊢
    refine qv_iload_n F d_M_round_4 0 rfl ?_
    refine qv_aload_n F d_M_round_5 2 rfl ?_
    refine g_M_75 F d_M_round_6 ?_
    refine qv_icmpge F d_M_round_9 rfl (show σ 28 2 < 2 ^ 31 by omega) (show σ 28 2 < 2 ^ 31 by omega) (fun hb => ?_) (fun hb => ?_)
    ·
      refine qv_iconst F (nI 0) d_M_round_66 ic_0 ?_
      refine qv_istore_n (L' := [(2, _), (1, _), (0, _)]) F d_M_round_67 (by decide) rfl ?_
      have lpc := lu_up (fun k (_ : Unit) => vv_ zp l ze (rr_ 3) zs zm za zb zt zc (MQ zb (mq_ X (ei_ (nI (cs_ (mo_ σ) (ft_ (mo_ σ)) (σ 43) (σ 44) (σ 28 7) s0).2.2) (mr_ σ (cs_ (mo_ σ) (ft_ (mo_ σ)) (σ 43) (σ 44) (σ 28 7) s0)))) za zs 0 0 (aw_ X)) X 5 [(2, .int (nI k)), (1, .int (nI (cs_ (mo_ σ) (ft_ (mo_ σ)) (σ 43) (σ 44) k s0).2.2)), (0, .ref (adr X 28))] (mr_ σ (cs_ (mo_ σ) (ft_ (mo_ σ)) (σ 43) (σ 44) k s0)) 68 []) (fun _ _ => True) (σ 28 7) ?_ ?_ 0 () (Nat.zero_le _) trivial
      · exact lpc
      · intro _ _
        have hfl : fl_ (cs_ (mo_ σ) (ft_ (mo_ σ)) (σ 43) (σ 44) (σ 28 7) s0) := cs_fl hfs
        refine qv_iload_n F d_M_round_68 0 rfl ?_
        refine qv_aload_n F d_M_round_69 2 rfl ?_
        refine g_M_86 F d_M_round_70 ?_
        refine qv_icmpge F d_M_round_73 rfl (show σ 28 7 < 2 ^ 31 by omega) (show σ 28 7 < 2 ^ 31 by omega) (fun hb => ?_) (fun hb => ?_)
        ·
          refine qv_iload_n F d_M_round_128 1 rfl ?_
          exact qv_zret F hr hlk (by rcases hfl with h | h <;> rw [h] <;> first | exact Or.inl rfl | exact Or.inr rfl) d_M_round_129 (ei_of rfl rfl)
        ·
          exact absurd (show σ 28 7 < σ 28 7 from hb) (by omega)
      · intro k _ hk _ ih
        have ih := ih () trivial
        have t11 : σ 35 k < 4 := ht.2.2.2.2.2.2.1 k
        have m8 := hb0 k hk
        have hB : B_ (cs_ (mo_ σ) (ft_ (mo_ σ)) (σ 43) (σ 44) k s0) := cs_B hw hBs
        have hf : fl_ (cs_ (mo_ σ) (ft_ (mo_ σ)) (σ 43) (σ 44) k s0) := cs_fl hfs
        have e1 : cs_ (mo_ σ) (ft_ (mo_ σ)) (σ 43) (σ 44) (k + 1) s0 = it_ (fun c => pp_ (mo_ σ) (ft_ (mo_ σ)) k c (σ 44 k + c) (σ 37 k)) (σ 43 (σ 35 k)) (cs_ (mo_ σ) (ft_ (mo_ σ)) (σ 43) (σ 44) k s0) := rfl
        rw [e1] at ih
        generalize cs_ (mo_ σ) (ft_ (mo_ σ)) (σ 43) (σ 44) k s0 = r at hB hf ih ⊢
        refine qv_iload_n F d_M_round_68 0 rfl ?_
        refine qv_aload_n F d_M_round_69 2 rfl ?_
        refine g_M_86 F d_M_round_70 ?_
        refine qv_icmpge F d_M_round_73 rfl (by omega) (show σ 28 7 < 2 ^ 31 by omega) (fun hb => ?_) (fun hb => ?_)
        ·
          exact absurd (show σ 28 7 ≤ k from hb) (by omega)
        ·
          refine qv_iconst F (nI 0) d_M_round_76 ic_0 ?_
          refine qv_istore_n (L' := [(3, _), (2, _), (1, _), (0, _)]) F d_M_round_77 (by decide) rfl ?_
          have lp2 := lu_up (fun c (_ : Unit) => vv_ zp l ze (rr_ 3) zs zm za zb zt zc (MQ zb (mq_ X (ei_ (nI (cs_ (mo_ σ) (ft_ (mo_ σ)) (σ 43) (σ 44) (σ 28 7) s0).2.2) (mr_ σ (cs_ (mo_ σ) (ft_ (mo_ σ)) (σ 43) (σ 44) (σ 28 7) s0)))) za zs 0 0 (aw_ X)) X 5 [(3, .int (nI c)), (2, .int (nI k)), (1, .int (nI (it_ (fun c => pp_ (mo_ σ) (ft_ (mo_ σ)) k c (σ 44 k + c) (σ 37 k)) c r).2.2)), (0, .ref (adr X 28))] (mr_ σ (it_ (fun c => pp_ (mo_ σ) (ft_ (mo_ σ)) k c (σ 44 k + c) (σ 37 k)) c r)) 78 []) (fun _ _ => True) (σ 43 (σ 35 k)) ?_ ?_ 0 () (Nat.zero_le _) trivial
          · exact lp2
          · intro _ _
            refine qv_iload_n F d_M_round_78 0 rfl ?_
            refine qv_aload_n F d_M_round_79 3 rfl ?_
            refine g_M_53 F d_M_round_80 ?_
            refine qv_aload_n F d_M_round_83 3 rfl ?_
            refine g_M_28 F d_M_round_84 ?_
            refine qv_iload_n F d_M_round_87 1 rfl ?_
            refine ld_35 F (show k < 8 by omega) d_M_round_88 ?_
            refine ld_43 F t11 d_M_round_89 ?_
            refine qv_icmpge F d_M_round_90 rfl (show σ 43 (σ 35 k) < 2 ^ 31 by omega) (show σ 43 (σ 35 k) < 2 ^ 31 by omega) (fun hb => ?_) (fun hb => ?_)
            ·
              refine qv_sub (L' := [(2, _), (1, _), (0, _)]) [1, 2, 3] rfl ?_
              refine qv_iinc (L' := [(2, _), (1, _), (0, _)]) F _ d_M_round_122 0 rfl (ii_1 _) (by decide) rfl ?_
              refine qv_goto F d_M_round_125 rfl ?_
              exact ih
            ·
              exact absurd (show σ 43 (σ 35 k) < σ 43 (σ 35 k) from hb) (by omega)
          · intro c _ hc _ ih2
            have ih2 := ih2 () trivial
            have e2 : it_ (fun c => pp_ (mo_ σ) (ft_ (mo_ σ)) k c (σ 44 k + c) (σ 37 k)) (c + 1) r = pp_ (mo_ σ) (ft_ (mo_ σ)) k c (σ 44 k + c) (σ 37 k) (it_ (fun c => pp_ (mo_ σ) (ft_ (mo_ σ)) k c (σ 44 k + c) (σ 37 k)) c r) := rfl
            rw [e2] at ih2
            have hB2 : B_ (it_ (fun c => pp_ (mo_ σ) (ft_ (mo_ σ)) k c (σ 44 k + c) (σ 37 k)) c r) := it_B (fun _ s hs => pp_B hw hs) c r hB
            have hf2 : fl_ (it_ (fun c => pp_ (mo_ σ) (ft_ (mo_ σ)) k c (σ 44 k + c) (σ 37 k)) c r) := it_fl (fun _ s hs => pp_fl hs) c r hf
            generalize it_ (fun c => pp_ (mo_ σ) (ft_ (mo_ σ)) k c (σ 44 k + c) (σ 37 k)) c r = y at hB2 hf2 ih2 ⊢
            rw [fq_use (fq_pp (t := mo_ σ) (w := ft_ (mo_ σ)) (k := k) (c := c) (d := σ 44 k + c) (n := σ 37 k)) y] at ih2
            have hfe : fl_ (pp_ (mo_ σ) (ft_ (mo_ σ)) k c (σ 44 k + c) (σ 37 k) (y.1, y.2.1, 0)) := pp_fl (Or.inl rfl)
            have ew : ft_ (mo_ (mr_ σ y)) = ft_ (mo_ σ) := ft_cg rfl rfl
            have ep : pp_ (mo_ (mr_ σ y)) = pp_ (mo_ σ) := by
              funext w k c d n s
              unfold pp_
              rw [pa_cg (t := mo_ (mr_ σ y)) (t' := mo_ σ) rfl rfl rfl]
            have hf2 : y.2.2 = 0 ∨ y.2.2 = 1 := hf2
            have hB0 : B_ (mg_ (mr_ σ y) 0) := hB2
            refine qv_iload_n F d_M_round_78 0 rfl ?_
            refine qv_aload_n F d_M_round_79 3 rfl ?_
            refine g_M_53 F d_M_round_80 ?_
            refine qv_aload_n F d_M_round_83 3 rfl ?_
            refine g_M_28 F d_M_round_84 ?_
            refine qv_iload_n F d_M_round_87 1 rfl ?_
            refine ld_35 F (show k < 8 by omega) d_M_round_88 ?_
            refine ld_43 F t11 d_M_round_89 ?_
            refine qv_icmpge F d_M_round_90 rfl (by omega) (show σ 43 (σ 35 k) < 2 ^ 31 by omega) (fun hb => ?_) (fun hb => ?_)
            ·
              exact absurd (show σ 43 (σ 35 k) ≤ c from hb) (by omega)
            ·
              refine qv_aload_n F d_M_round_93 3 rfl ?_
              refine qv_iload_n F d_M_round_94 1 rfl ?_
              refine qv_iload_n F d_M_round_95 0 rfl ?_
              refine i_M_117i F (c_M_carry l X (mr_ σ y) k c (by omega) (by omega) (show σ 44 k + c < 8 by omega) ht hB0) (by decide) (Nat.le_of_ble_eq_true rfl) d_M_round_96 ?_
              rw [ew, ep, mr_mr]
              refine qv_st (σ' := mr_ σ (pp_ (mo_ σ) (ft_ (mo_ σ)) k c (σ 44 k + c) (σ 37 k) (y.1, y.2.1, 0))) rfl ?_
              refine qv_stk (st' := [.int (nI (pp_ (mo_ σ) (ft_ (mo_ σ)) k c (σ 44 k + c) (σ 37 k) (y.1, y.2.1, 0)).2.2)]) rfl ?_
              generalize pp_ (mo_ σ) (ft_ (mo_ σ)) k c (σ 44 k + c) (σ 37 k) (y.1, y.2.1, 0) = u at ih2 hfe ⊢
              have hfe : u.2.2 = 0 ∨ u.2.2 = 1 := hfe
              refine qv_istore (L' := [(4, _), (3, _), (2, _), (1, _), (0, _)]) F d_M_round_99 (by decide) rfl ?_
              refine qv_iload_n F d_M_round_101 3 rfl ?_
              refine qv_ifne F d_M_round_102 rfl (by omega) (fun hb => ?_) (fun hb => ?_)
              ·
                rw [show y.2.2 = 1 by omega, fg_1] at ih2
                refine qv_iconst F (nI 1) d_M_round_110 ic_1 ?_
                refine qv_goto F d_M_round_111 rfl ?_
                refine qv_istore_n (L' := [(1, _), (4, _), (3, _), (2, _), (0, _)]) F d_M_round_115 (by decide) rfl ?_
                refine qv_sub (L' := [(3, _), (2, _), (1, _), (0, _)]) [2, 3, 0, 4] rfl ?_
                refine qv_iinc (L' := [(3, _), (2, _), (1, _), (0, _)]) F _ d_M_round_116 0 rfl (ii_1 _) (by decide) rfl ?_
                refine qv_goto F d_M_round_119 rfl ?_
                exact ih2
              ·
                have hg0 := hb
                rw [hg0] at ih2
                refine qv_iload F d_M_round_105 0 rfl ?_
                refine qv_ifeq F d_M_round_107 rfl (by omega) (fun hb => ?_) (fun hb => ?_)
                ·
                  rw [if_pos hb] at ih2
                  refine qv_iconst F (nI 0) d_M_round_114 ic_0 ?_
                  refine qv_istore_n (L' := [(1, _), (4, _), (3, _), (2, _), (0, _)]) F d_M_round_115 (by decide) rfl ?_
                  refine qv_sub (L' := [(3, _), (2, _), (1, _), (0, _)]) [2, 3, 0, 4] rfl ?_
                  refine qv_iinc (L' := [(3, _), (2, _), (1, _), (0, _)]) F _ d_M_round_116 0 rfl (ii_1 _) (by decide) rfl ?_
                  refine qv_goto F d_M_round_119 rfl ?_
                  exact ih2
                ·
                  rw [if_neg hb] at ih2
                  refine qv_iconst F (nI 1) d_M_round_110 ic_1 ?_
                  refine qv_goto F d_M_round_111 rfl ?_
                  refine qv_istore_n (L' := [(1, _), (4, _), (3, _), (2, _), (0, _)]) F d_M_round_115 (by decide) rfl ?_
                  refine qv_sub (L' := [(3, _), (2, _), (1, _), (0, _)]) [2, 3, 0, 4] rfl ?_
                  refine qv_iinc (L' := [(3, _), (2, _), (1, _), (0, _)]) F _ d_M_round_116 0 rfl (ii_1 _) (by decide) rfl ?_
                  refine qv_goto F d_M_round_119 rfl ?_
                  exact ih2
    ·
      exact absurd (show σ 28 2 < σ 28 2 from hb) (by omega)
  · intro k _ hk _ ih
    have ih := ih () trivial
    have t8 : σ 32 k < 16 := ht.2.2.2.1 k
    have m8 := hm (σ 32 k / 4)
    have hB : B_ (ss_ (mo_ σ) (ft_ (mo_ σ)) (σ 43) k (mg_ σ 0)) := ss_B hw h1
    have hf : fl_ (ss_ (mo_ σ) (ft_ (mo_ σ)) (σ 43) k (mg_ σ 0)) := ss_fl (Or.inl rfl)
    have e1 : ss_ (mo_ σ) (ft_ (mo_ σ)) (σ 43) (k + 1) (mg_ σ 0) = it_ (sx_ (mo_ σ) (ft_ (mo_ σ)) k) (σ 43 (σ 32 k / 4)) (ss_ (mo_ σ) (ft_ (mo_ σ)) (σ 43) k (mg_ σ 0)) := rfl
    rw [e1] at ih
    generalize ss_ (mo_ σ) (ft_ (mo_ σ)) (σ 43) k (mg_ σ 0) = r at hB hf ih ⊢
    refine qv_iload_n F d_M_round_4 0 rfl ?_
    refine qv_aload_n F d_M_round_5 2 rfl ?_
    refine g_M_75 F d_M_round_6 ?_
    refine qv_icmpge F d_M_round_9 rfl (by omega) (show σ 28 2 < 2 ^ 31 by omega) (fun hb => ?_) (fun hb => ?_)
    ·
      exact absurd (show σ 28 2 ≤ k from hb) (by omega)
    ·
      refine qv_iconst F (nI 0) d_M_round_12 ic_0 ?_
      refine qv_istore_n (L' := [(3, _), (2, _), (1, _), (0, _)]) F d_M_round_13 (by decide) rfl ?_
      have lp2 := lu_up (fun c (_ : Unit) => vv_ zp l ze (rr_ 3) zs zm za zb zt zc (MQ zb (mq_ X (ei_ (nI (rd_ (mo_ σ) (ft_ (mo_ σ)) (σ 43) (σ 44) (σ 28 2) (σ 28 7) (mg_ σ 0)).2.2) (mr_ σ (rd_ (mo_ σ) (ft_ (mo_ σ)) (σ 43) (σ 44) (σ 28 2) (σ 28 7) (mg_ σ 0))))) za zs 0 0 (aw_ X)) X 5 [(3, .int (nI c)), (2, .int (nI k)), (1, .int (nI (it_ (sx_ (mo_ σ) (ft_ (mo_ σ)) k) c r).2.2)), (0, .ref (adr X 28))] (mr_ σ (it_ (sx_ (mo_ σ) (ft_ (mo_ σ)) k) c r)) 14 []) (fun _ _ => True) (σ 43 (σ 32 k / 4)) ?_ ?_ 0 () (Nat.zero_le _) trivial
      · exact lp2
      · intro _ _
        refine qv_iload_n F d_M_round_14 0 rfl ?_
        refine qv_aload_n F d_M_round_15 3 rfl ?_
        refine g_M_53 F d_M_round_16 ?_
        refine qv_aload_n F d_M_round_19 3 rfl ?_
        refine g_M_19 F d_M_round_20 ?_
        refine qv_iload_n F d_M_round_23 1 rfl ?_
        refine ld_32 F (show k < 40 by omega) d_M_round_24 ?_
        refine qv_iconst F (nI 4) d_M_round_25 ic_4 ?_
        refine qv_idiv F d_M_round_26 (show σ 32 k < 2 ^ 31 by omega) (by decide) (by decide) ?_
        refine ld_43 F (show σ 32 k / 4 < 4 by omega) d_M_round_27 ?_
        refine qv_icmpge F d_M_round_28 rfl (show σ 43 (σ 32 k / 4) < 2 ^ 31 by omega) (show σ 43 (σ 32 k / 4) < 2 ^ 31 by omega) (fun hb => ?_) (fun hb => ?_)
        ·
          refine qv_sub (L' := [(2, _), (1, _), (0, _)]) [1, 2, 3] rfl ?_
          refine qv_iinc (L' := [(2, _), (1, _), (0, _)]) F _ d_M_round_60 0 rfl (ii_1 _) (by decide) rfl ?_
          refine qv_goto F d_M_round_63 rfl ?_
          exact ih
        ·
          exact absurd (show σ 43 (σ 32 k / 4) < σ 43 (σ 32 k / 4) from hb) (by omega)
      · intro c _ hc _ ih2
        have ih2 := ih2 () trivial
        have e2 : it_ (sx_ (mo_ σ) (ft_ (mo_ σ)) k) (c + 1) r = sx_ (mo_ σ) (ft_ (mo_ σ)) k c (it_ (sx_ (mo_ σ) (ft_ (mo_ σ)) k) c r) := rfl
        rw [e2] at ih2
        have hB2 : B_ (it_ (sx_ (mo_ σ) (ft_ (mo_ σ)) k) c r) := it_B (fun _ s hs => sx_B hw hs) c r hB
        have hf2 : fl_ (it_ (sx_ (mo_ σ) (ft_ (mo_ σ)) k) c r) := it_fl (fun _ s hs => sx_fl hs) c r hf
        generalize it_ (sx_ (mo_ σ) (ft_ (mo_ σ)) k) c r = y at hB2 hf2 ih2 ⊢
        rw [fq_use (fq_sx (t := mo_ σ) (w := ft_ (mo_ σ)) (k := k) (c := c)) y] at ih2
        have hfe : fl_ (sx_ (mo_ σ) (ft_ (mo_ σ)) k c (y.1, y.2.1, 0)) := sx_fl (Or.inl rfl)
        have ew : ft_ (mo_ (mr_ σ y)) = ft_ (mo_ σ) := ft_cg rfl rfl
        have ep : sx_ (mo_ (mr_ σ y)) = sx_ (mo_ σ) := sx_cg rfl rfl rfl rfl
        have hf2 : y.2.2 = 0 ∨ y.2.2 = 1 := hf2
        have hB0 : B_ (mg_ (mr_ σ y) 0) := hB2
        refine qv_iload_n F d_M_round_14 0 rfl ?_
        refine qv_aload_n F d_M_round_15 3 rfl ?_
        refine g_M_53 F d_M_round_16 ?_
        refine qv_aload_n F d_M_round_19 3 rfl ?_
        refine g_M_19 F d_M_round_20 ?_
        refine qv_iload_n F d_M_round_23 1 rfl ?_
        refine ld_32 F (show k < 40 by omega) d_M_round_24 ?_
        refine qv_iconst F (nI 4) d_M_round_25 ic_4 ?_
        refine qv_idiv F d_M_round_26 (show σ 32 k < 2 ^ 31 by omega) (by decide) (by decide) ?_
        refine ld_43 F (show σ 32 k / 4 < 4 by omega) d_M_round_27 ?_
        refine qv_icmpge F d_M_round_28 rfl (by omega) (show σ 43 (σ 32 k / 4) < 2 ^ 31 by omega) (fun hb => ?_) (fun hb => ?_)
        ·
          exact absurd (show σ 43 (σ 32 k / 4) ≤ c from hb) (by omega)
        ·
          refine qv_aload_n F d_M_round_31 3 rfl ?_
          refine qv_iload_n F d_M_round_32 1 rfl ?_
          refine qv_iload_n F d_M_round_33 0 rfl ?_
          refine i_M_114i F (c_M_follow l X (mr_ σ y) k c (by omega) (by omega) ht hB0) (by decide) (Nat.le_of_ble_eq_true rfl) d_M_round_34 ?_
          rw [ew, ep, mr_mr]
          refine qv_st (σ' := mr_ σ (sx_ (mo_ σ) (ft_ (mo_ σ)) k c (y.1, y.2.1, 0))) rfl ?_
          refine qv_stk (st' := [.int (nI (sx_ (mo_ σ) (ft_ (mo_ σ)) k c (y.1, y.2.1, 0)).2.2)]) rfl ?_
          generalize sx_ (mo_ σ) (ft_ (mo_ σ)) k c (y.1, y.2.1, 0) = u at ih2 hfe ⊢
          have hfe : u.2.2 = 0 ∨ u.2.2 = 1 := hfe
          refine qv_istore (L' := [(4, _), (3, _), (2, _), (1, _), (0, _)]) F d_M_round_37 (by decide) rfl ?_
          refine qv_iload_n F d_M_round_39 3 rfl ?_
          refine qv_ifne F d_M_round_40 rfl (by omega) (fun hb => ?_) (fun hb => ?_)
          ·
            rw [show y.2.2 = 1 by omega, fg_1] at ih2
            refine qv_iconst F (nI 1) d_M_round_48 ic_1 ?_
            refine qv_goto F d_M_round_49 rfl ?_
            refine qv_istore_n (L' := [(1, _), (4, _), (3, _), (2, _), (0, _)]) F d_M_round_53 (by decide) rfl ?_
            refine qv_sub (L' := [(3, _), (2, _), (1, _), (0, _)]) [2, 3, 0, 4] rfl ?_
            refine qv_iinc (L' := [(3, _), (2, _), (1, _), (0, _)]) F _ d_M_round_54 0 rfl (ii_1 _) (by decide) rfl ?_
            refine qv_goto F d_M_round_57 rfl ?_
            exact ih2
          ·
            have hg0 := hb
            rw [hg0] at ih2
            refine qv_iload F d_M_round_43 0 rfl ?_
            refine qv_ifeq F d_M_round_45 rfl (by omega) (fun hb => ?_) (fun hb => ?_)
            ·
              rw [if_pos hb] at ih2
              refine qv_iconst F (nI 0) d_M_round_52 ic_0 ?_
              refine qv_istore_n (L' := [(1, _), (4, _), (3, _), (2, _), (0, _)]) F d_M_round_53 (by decide) rfl ?_
              refine qv_sub (L' := [(3, _), (2, _), (1, _), (0, _)]) [2, 3, 0, 4] rfl ?_
              refine qv_iinc (L' := [(3, _), (2, _), (1, _), (0, _)]) F _ d_M_round_54 0 rfl (ii_1 _) (by decide) rfl ?_
              refine qv_goto F d_M_round_57 rfl ?_
              exact ih2
            ·
              rw [if_neg hb] at ih2
              refine qv_iconst F (nI 1) d_M_round_48 ic_1 ?_
              refine qv_goto F d_M_round_49 rfl ?_
              refine qv_istore_n (L' := [(1, _), (4, _), (3, _), (2, _), (0, _)]) F d_M_round_53 (by decide) rfl ?_
              refine qv_sub (L' := [(3, _), (2, _), (1, _), (0, _)]) [2, 3, 0, 4] rfl ?_
              refine qv_iinc (L' := [(3, _), (2, _), (1, _), (0, _)]) F _ d_M_round_54 0 rfl (ii_1 _) (by decide) rfl ?_
              refine qv_goto F d_M_round_57 rfl ?_
              exact ih2
end
section
abbrev b_M_size : ByteArray := prog_7_method_39_code
def y_M_size : MethodName := ⟨R_M, "size", "(I)I"⟩
abbrev w_M_size : List Cond := wz_ y_M_size b_M_size 4 (some .int)
abbrev b_M_solve : ByteArray := prog_7_method_26_code
def y_M_solve : MethodName := ⟨R_M, "solve", "()I"⟩
abbrev w_M_solve : List Cond := wz_ y_M_solve b_M_solve 4 (some .int)
end
section
theorem d_M_size_0 : decode b_M_size 0 = .ok (.iconst 0, 1) := by decide +kernel
theorem d_M_size_1 : decode b_M_size 1 = .ok (.istore_n 2, 1) := by decide +kernel
theorem d_M_size_2 : decode b_M_size 2 = .ok (.iload_n 1, 1) := by decide +kernel
theorem d_M_size_3 : decode b_M_size 3 = .ok (.tableswitch 103 0 4 #[33, 38, 43, 70, 98], 33) := by decide +kernel
theorem d_M_size_36 : decode b_M_size 36 = .ok (.aload_n 0, 1) := by decide +kernel
theorem d_M_size_37 : decode b_M_size 37 = .ok (.getfield 75, 3) := by decide +kernel
theorem d_M_size_40 : decode b_M_size 40 = .ok (.ireturn, 1) := by decide +kernel
theorem d_M_size_41 : decode b_M_size 41 = .ok (.aload_n 0, 1) := by decide +kernel
theorem d_M_size_42 : decode b_M_size 42 = .ok (.getfield 86, 3) := by decide +kernel
theorem d_M_size_45 : decode b_M_size 45 = .ok (.ireturn, 1) := by decide +kernel
theorem d_M_size_46 : decode b_M_size 46 = .ok (.iconst 0, 1) := by decide +kernel
theorem d_M_size_47 : decode b_M_size 47 = .ok (.istore_n 3, 1) := by decide +kernel
theorem d_M_size_48 : decode b_M_size 48 = .ok (.iload_n 3, 1) := by decide +kernel
theorem d_M_size_49 : decode b_M_size 49 = .ok (.aload_n 0, 1) := by decide +kernel
theorem d_M_size_50 : decode b_M_size 50 = .ok (.getfield 86, 3) := by decide +kernel
theorem d_M_size_53 : decode b_M_size 53 = .ok (.if_icmp .ge 18, 3) := by decide +kernel
theorem d_M_size_56 : decode b_M_size 56 = .ok (.iload_n 2, 1) := by decide +kernel
theorem d_M_size_57 : decode b_M_size 57 = .ok (.aload_n 0, 1) := by decide +kernel
theorem d_M_size_58 : decode b_M_size 58 = .ok (.getfield 34, 3) := by decide +kernel
theorem d_M_size_61 : decode b_M_size 61 = .ok (.iload_n 3, 1) := by decide +kernel
theorem d_M_size_62 : decode b_M_size 62 = .ok (.iaload, 1) := by decide +kernel
theorem d_M_size_63 : decode b_M_size 63 = .ok (.iadd, 1) := by decide +kernel
theorem d_M_size_64 : decode b_M_size 64 = .ok (.istore_n 2, 1) := by decide +kernel
theorem d_M_size_65 : decode b_M_size 65 = .ok (.iinc 3 1, 3) := by decide +kernel
theorem d_M_size_68 : decode b_M_size 68 = .ok (.goto (-20), 3) := by decide +kernel
theorem d_M_size_71 : decode b_M_size 71 = .ok (.iload_n 2, 1) := by decide +kernel
theorem d_M_size_72 : decode b_M_size 72 = .ok (.ireturn, 1) := by decide +kernel
theorem d_M_size_73 : decode b_M_size 73 = .ok (.iconst 0, 1) := by decide +kernel
theorem d_M_size_74 : decode b_M_size 74 = .ok (.istore_n 3, 1) := by decide +kernel
theorem d_M_size_75 : decode b_M_size 75 = .ok (.iload_n 3, 1) := by decide +kernel
theorem d_M_size_76 : decode b_M_size 76 = .ok (.bipush 16, 2) := by decide +kernel
theorem d_M_size_78 : decode b_M_size 78 = .ok (.if_icmp .ge 21, 3) := by decide +kernel
theorem d_M_size_81 : decode b_M_size 81 = .ok (.iload_n 2, 1) := by decide +kernel
theorem d_M_size_82 : decode b_M_size 82 = .ok (.aload_n 0, 1) := by decide +kernel
theorem d_M_size_83 : decode b_M_size 83 = .ok (.getfield 65, 3) := by decide +kernel
theorem d_M_size_86 : decode b_M_size 86 = .ok (.iload_n 3, 1) := by decide +kernel
theorem d_M_size_87 : decode b_M_size 87 = .ok (.iaload, 1) := by decide +kernel
theorem d_M_size_88 : decode b_M_size 88 = .ok (.invokestatic 133, 3) := by decide +kernel
theorem d_M_size_91 : decode b_M_size 91 = .ok (.iadd, 1) := by decide +kernel
theorem d_M_size_92 : decode b_M_size 92 = .ok (.istore_n 2, 1) := by decide +kernel
theorem d_M_size_93 : decode b_M_size 93 = .ok (.iinc 3 1, 3) := by decide +kernel
theorem d_M_size_96 : decode b_M_size 96 = .ok (.goto (-21), 3) := by decide +kernel
theorem d_M_size_99 : decode b_M_size 99 = .ok (.iload_n 2, 1) := by decide +kernel
theorem d_M_size_100 : decode b_M_size 100 = .ok (.ireturn, 1) := by decide +kernel
theorem d_M_size_101 : decode b_M_size 101 = .ok (.aload_n 0, 1) := by decide +kernel
theorem d_M_size_102 : decode b_M_size 102 = .ok (.getfield 139, 3) := by decide +kernel
theorem d_M_size_105 : decode b_M_size 105 = .ok (.ireturn, 1) := by decide +kernel
theorem d_M_size_106 : decode b_M_size 106 = .ok (.iconst (-1), 1) := by decide +kernel
theorem d_M_size_107 : decode b_M_size 107 = .ok (.ireturn, 1) := by decide +kernel
theorem d_M_solve_0 : decode b_M_solve 0 = .ok (.aload_n 0, 1) := by decide +kernel
theorem d_M_solve_1 : decode b_M_solve 1 = .ok (.invokevirtual 120, 3) := by decide +kernel
theorem d_M_solve_4 : decode b_M_solve 4 = .ok (.aload_n 0, 1) := by decide +kernel
theorem d_M_solve_5 : decode b_M_solve 5 = .ok (.invokevirtual 123, 3) := by decide +kernel
theorem d_M_solve_8 : decode b_M_solve 8 = .ok (.ifCond .ne 6, 3) := by decide +kernel
theorem d_M_solve_11 : decode b_M_solve 11 = .ok (.bipush (-3), 2) := by decide +kernel
theorem d_M_solve_13 : decode b_M_solve 13 = .ok (.ireturn, 1) := by decide +kernel
theorem d_M_solve_14 : decode b_M_solve 14 = .ok (.iconst 0, 1) := by decide +kernel
theorem d_M_solve_15 : decode b_M_solve 15 = .ok (.istore_n 1, 1) := by decide +kernel
theorem d_M_solve_16 : decode b_M_solve 16 = .ok (.iload_n 1, 1) := by decide +kernel
theorem d_M_solve_17 : decode b_M_solve 17 = .ok (.iconst 4, 1) := by decide +kernel
theorem d_M_solve_18 : decode b_M_solve 18 = .ok (.if_icmp .ge 21, 3) := by decide +kernel
theorem d_M_solve_21 : decode b_M_solve 21 = .ok (.aload_n 0, 1) := by decide +kernel
theorem d_M_solve_22 : decode b_M_solve 22 = .ok (.getfield 53, 3) := by decide +kernel
theorem d_M_solve_25 : decode b_M_solve 25 = .ok (.iload_n 1, 1) := by decide +kernel
theorem d_M_solve_26 : decode b_M_solve 26 = .ok (.aload_n 0, 1) := by decide +kernel
theorem d_M_solve_27 : decode b_M_solve 27 = .ok (.getfield 50, 3) := by decide +kernel
theorem d_M_solve_30 : decode b_M_solve 30 = .ok (.iload_n 1, 1) := by decide +kernel
theorem d_M_solve_31 : decode b_M_solve 31 = .ok (.iaload, 1) := by decide +kernel
theorem d_M_solve_32 : decode b_M_solve 32 = .ok (.iastore, 1) := by decide +kernel
theorem d_M_solve_33 : decode b_M_solve 33 = .ok (.iinc 1 1, 3) := by decide +kernel
theorem d_M_solve_36 : decode b_M_solve 36 = .ok (.goto (-20), 3) := by decide +kernel
theorem d_M_solve_39 : decode b_M_solve 39 = .ok (.iconst 0, 1) := by decide +kernel
theorem d_M_solve_40 : decode b_M_solve 40 = .ok (.istore_n 1, 1) := by decide +kernel
theorem d_M_solve_41 : decode b_M_solve 41 = .ok (.iload_n 1, 1) := by decide +kernel
theorem d_M_solve_42 : decode b_M_solve 42 = .ok (.aload_n 0, 1) := by decide +kernel
theorem d_M_solve_43 : decode b_M_solve 43 = .ok (.getfield 86, 3) := by decide +kernel
theorem d_M_solve_46 : decode b_M_solve 46 = .ok (.if_icmp .ge 50, 3) := by decide +kernel
theorem d_M_solve_49 : decode b_M_solve 49 = .ok (.aload_n 0, 1) := by decide +kernel
theorem d_M_solve_50 : decode b_M_solve 50 = .ok (.getfield 56, 3) := by decide +kernel
theorem d_M_solve_53 : decode b_M_solve 53 = .ok (.iload_n 1, 1) := by decide +kernel
theorem d_M_solve_54 : decode b_M_solve 54 = .ok (.aload_n 0, 1) := by decide +kernel
theorem d_M_solve_55 : decode b_M_solve 55 = .ok (.iload_n 1, 1) := by decide +kernel
theorem d_M_solve_56 : decode b_M_solve 56 = .ok (.invokevirtual 92, 3) := by decide +kernel
theorem d_M_solve_59 : decode b_M_solve 59 = .ok (.ifCond .eq 17, 3) := by decide +kernel
theorem d_M_solve_62 : decode b_M_solve 62 = .ok (.aload_n 0, 1) := by decide +kernel
theorem d_M_solve_63 : decode b_M_solve 63 = .ok (.aload_n 0, 1) := by decide +kernel
theorem d_M_solve_64 : decode b_M_solve 64 = .ok (.getfield 31, 3) := by decide +kernel
theorem d_M_solve_67 : decode b_M_solve 67 = .ok (.iload_n 1, 1) := by decide +kernel
theorem d_M_solve_68 : decode b_M_solve 68 = .ok (.iaload, 1) := by decide +kernel
theorem d_M_solve_69 : decode b_M_solve 69 = .ok (.iload_n 1, 1) := by decide +kernel
theorem d_M_solve_70 : decode b_M_solve 70 = .ok (.invokevirtual 96, 3) := by decide +kernel
theorem d_M_solve_73 : decode b_M_solve 73 = .ok (.goto 4, 3) := by decide +kernel
theorem d_M_solve_76 : decode b_M_solve 76 = .ok (.iconst 0, 1) := by decide +kernel
theorem d_M_solve_77 : decode b_M_solve 77 = .ok (.iastore, 1) := by decide +kernel
theorem d_M_solve_78 : decode b_M_solve 78 = .ok (.aload_n 0, 1) := by decide +kernel
theorem d_M_solve_79 : decode b_M_solve 79 = .ok (.getfield 59, 3) := by decide +kernel
theorem d_M_solve_82 : decode b_M_solve 82 = .ok (.iload_n 1, 1) := by decide +kernel
theorem d_M_solve_83 : decode b_M_solve 83 = .ok (.aload_n 0, 1) := by decide +kernel
theorem d_M_solve_84 : decode b_M_solve 84 = .ok (.getfield 28, 3) := by decide +kernel
theorem d_M_solve_87 : decode b_M_solve 87 = .ok (.iload_n 1, 1) := by decide +kernel
theorem d_M_solve_88 : decode b_M_solve 88 = .ok (.iaload, 1) := by decide +kernel
theorem d_M_solve_89 : decode b_M_solve 89 = .ok (.iastore, 1) := by decide +kernel
theorem d_M_solve_90 : decode b_M_solve 90 = .ok (.iinc 1 1, 3) := by decide +kernel
theorem d_M_solve_93 : decode b_M_solve 93 = .ok (.goto (-52), 3) := by decide +kernel
theorem d_M_solve_96 : decode b_M_solve 96 = .ok (.aload_n 0, 1) := by decide +kernel
theorem d_M_solve_97 : decode b_M_solve 97 = .ok (.aload_n 0, 1) := by decide +kernel
theorem d_M_solve_98 : decode b_M_solve 98 = .ok (.getfield 86, 3) := by decide +kernel
theorem d_M_solve_101 : decode b_M_solve 101 = .ok (.putfield 127, 3) := by decide +kernel
theorem d_M_solve_104 : decode b_M_solve 104 = .ok (.iconst 0, 1) := by decide +kernel
theorem d_M_solve_105 : decode b_M_solve 105 = .ok (.istore_n 1, 1) := by decide +kernel
theorem d_M_solve_106 : decode b_M_solve 106 = .ok (.iload_n 1, 1) := by decide +kernel
theorem d_M_solve_107 : decode b_M_solve 107 = .ok (.sipush 128, 3) := by decide +kernel
theorem d_M_solve_110 : decode b_M_solve 110 = .ok (.if_icmp .ge 16, 3) := by decide +kernel
theorem d_M_solve_113 : decode b_M_solve 113 = .ok (.aload_n 0, 1) := by decide +kernel
theorem d_M_solve_114 : decode b_M_solve 114 = .ok (.getfield 62, 3) := by decide +kernel
theorem d_M_solve_117 : decode b_M_solve 117 = .ok (.iload_n 1, 1) := by decide +kernel
theorem d_M_solve_118 : decode b_M_solve 118 = .ok (.iconst 0, 1) := by decide +kernel
theorem d_M_solve_119 : decode b_M_solve 119 = .ok (.iastore, 1) := by decide +kernel
theorem d_M_solve_120 : decode b_M_solve 120 = .ok (.iinc 1 1, 3) := by decide +kernel
theorem d_M_solve_123 : decode b_M_solve 123 = .ok (.goto (-17), 3) := by decide +kernel
theorem d_M_solve_126 : decode b_M_solve 126 = .ok (.iconst 0, 1) := by decide +kernel
theorem d_M_solve_127 : decode b_M_solve 127 = .ok (.istore_n 1, 1) := by decide +kernel
theorem d_M_solve_128 : decode b_M_solve 128 = .ok (.iload_n 1, 1) := by decide +kernel
theorem d_M_solve_129 : decode b_M_solve 129 = .ok (.bipush 16, 2) := by decide +kernel
theorem d_M_solve_131 : decode b_M_solve 131 = .ok (.if_icmp .ge 16, 3) := by decide +kernel
theorem d_M_solve_134 : decode b_M_solve 134 = .ok (.aload_n 0, 1) := by decide +kernel
theorem d_M_solve_135 : decode b_M_solve 135 = .ok (.getfield 65, 3) := by decide +kernel
theorem d_M_solve_138 : decode b_M_solve 138 = .ok (.iload_n 1, 1) := by decide +kernel
theorem d_M_solve_139 : decode b_M_solve 139 = .ok (.iconst 0, 1) := by decide +kernel
theorem d_M_solve_140 : decode b_M_solve 140 = .ok (.iastore, 1) := by decide +kernel
theorem d_M_solve_141 : decode b_M_solve 141 = .ok (.iinc 1 1, 3) := by decide +kernel
theorem d_M_solve_144 : decode b_M_solve 144 = .ok (.goto (-16), 3) := by decide +kernel
theorem d_M_solve_147 : decode b_M_solve 147 = .ok (.iconst 1, 1) := by decide +kernel
theorem d_M_solve_148 : decode b_M_solve 148 = .ok (.istore_n 1, 1) := by decide +kernel
theorem d_M_solve_149 : decode b_M_solve 149 = .ok (.iconst 0, 1) := by decide +kernel
theorem d_M_solve_150 : decode b_M_solve 150 = .ok (.istore_n 2, 1) := by decide +kernel
theorem d_M_solve_151 : decode b_M_solve 151 = .ok (.iload_n 2, 1) := by decide +kernel
theorem d_M_solve_152 : decode b_M_solve 152 = .ok (.sipush 1200, 3) := by decide +kernel
theorem d_M_solve_155 : decode b_M_solve 155 = .ok (.if_icmp .ge 18, 3) := by decide +kernel
theorem d_M_solve_158 : decode b_M_solve 158 = .ok (.iload_n 1, 1) := by decide +kernel
theorem d_M_solve_159 : decode b_M_solve 159 = .ok (.ifCond .eq 14, 3) := by decide +kernel
theorem d_M_solve_162 : decode b_M_solve 162 = .ok (.aload_n 0, 1) := by decide +kernel
theorem d_M_solve_163 : decode b_M_solve 163 = .ok (.invokevirtual 130, 3) := by decide +kernel
theorem d_M_solve_166 : decode b_M_solve 166 = .ok (.istore_n 1, 1) := by decide +kernel
theorem d_M_solve_167 : decode b_M_solve 167 = .ok (.iinc 2 1, 3) := by decide +kernel
theorem d_M_solve_170 : decode b_M_solve 170 = .ok (.goto (-19), 3) := by decide +kernel
theorem d_M_solve_173 : decode b_M_solve 173 = .ok (.iconst 0, 1) := by decide +kernel
theorem d_M_solve_174 : decode b_M_solve 174 = .ok (.istore_n 2, 1) := by decide +kernel
theorem d_M_solve_175 : decode b_M_solve 175 = .ok (.iconst 0, 1) := by decide +kernel
theorem d_M_solve_176 : decode b_M_solve 176 = .ok (.istore_n 3, 1) := by decide +kernel
theorem d_M_solve_177 : decode b_M_solve 177 = .ok (.iload_n 3, 1) := by decide +kernel
theorem d_M_solve_178 : decode b_M_solve 178 = .ok (.sipush 128, 3) := by decide +kernel
theorem d_M_solve_181 : decode b_M_solve 181 = .ok (.if_icmp .ge 21, 3) := by decide +kernel
theorem d_M_solve_184 : decode b_M_solve 184 = .ok (.iload_n 2, 1) := by decide +kernel
theorem d_M_solve_185 : decode b_M_solve 185 = .ok (.aload_n 0, 1) := by decide +kernel
theorem d_M_solve_186 : decode b_M_solve 186 = .ok (.getfield 62, 3) := by decide +kernel
theorem d_M_solve_189 : decode b_M_solve 189 = .ok (.iload_n 3, 1) := by decide +kernel
theorem d_M_solve_190 : decode b_M_solve 190 = .ok (.iaload, 1) := by decide +kernel
theorem d_M_solve_191 : decode b_M_solve 191 = .ok (.invokestatic 133, 3) := by decide +kernel
theorem d_M_solve_194 : decode b_M_solve 194 = .ok (.iadd, 1) := by decide +kernel
theorem d_M_solve_195 : decode b_M_solve 195 = .ok (.istore_n 2, 1) := by decide +kernel
theorem d_M_solve_196 : decode b_M_solve 196 = .ok (.iinc 3 1, 3) := by decide +kernel
theorem d_M_solve_199 : decode b_M_solve 199 = .ok (.goto (-22), 3) := by decide +kernel
theorem d_M_solve_202 : decode b_M_solve 202 = .ok (.iload_n 2, 1) := by decide +kernel
theorem d_M_solve_203 : decode b_M_solve 203 = .ok (.ireturn, 1) := by decide +kernel
end
section
section RW
variable {own : String} {p : Program} {l : Launch} {e : Env} {R : Room} {s : State} {m : MethodId} {args : Array Value} {below : List Frame} {meth : Method} {c : Code} {Q : State → Prop} {X : wX} {nL : Nat} {L : List (Nat × Value)} {σ : sg} {pc : Nat} {st : List Value} {cc : ByteArray}
theorem sic_128 : (Int16.ofInt (128)).toInt32 = nI 128 := by decide
theorem sic_1200 : (Int16.ofInt (1200)).toInt32 = nI 1200 := by decide
theorem g_M_139 (F : fx_ p s m args c cc nL R_M X) (hd : decode cc pc = .ok (.getfield 139, 3)) (k : vv_ p l e R s m args below meth c Q X nL L σ (pc + 3) (.int (nI (σ 28 22)) :: st)) : vv_ p l e R s m args below meth c Q X nL L σ pc (.ref (adr X 28) :: st) := qv_geti F (ref := R_M) (C := R_M) (T := F_M) (N := 24) in_M 28 rfl rfl 22 (by decide) (by decide +kernel) rfl rfl hd k
theorem p_M_127 (F : fx_ p s m args c cc nL R_M X) {x : Nat} (hd : decode cc pc = .ok (.putfield 127, 3)) (k : vv_ p l e R s m args below meth c Q X nL L (us σ 28 17 x) (pc + 3) st) : vv_ p l e R s m args below meth c Q X nL L σ pc (.int (nI x) :: .ref (adr X 28) :: st) := qv_put F (ref := R_M) (C := R_M) (T := F_M) (N := 24) in_M tf_M tt_M nn_M 28 rfl rfl rfl 17 (by decide) (by decide +kernel) rfl rfl (ty := .int) (by decide +kernel) rfl rfl rfl hd k
theorem i_M_120v (F : fx_ p s m args c cc nL R_M X) {rest : List Value} {d : Nat} {τ : sg} (hM : mt_ l X y_M_reaches w_M_reaches d [.ref (adr X 28)] σ (ev_ τ)) (hR : d + 1 ≤ R.frames ∧ 8 + (4 + 11) + 30 * d ≤ R.locals) (hw : (rest.map fun v => v.category).sum ≤ 8) (hd : decode cc pc = .ok (.invokevirtual 120, 3)) (k : vv_ p l e R s m args below meth c Q X nL L τ (pc + 3) rest) : vv_ p l e R s m args below meth c Q X nL L σ pc (.ref (adr X 28) :: rest) :=
  qv_callV F (maxL := 4) (ret := none) (n := 0) (as := []) (rest := rest) 28 rfl rfl (by decide +kernel) (by decide +kernel) (by decide +kernel) (by decide +kernel) (by decide +kernel) (by decide +kernel) hM rfl hR hw hd (fun r τ' hp => by obtain ⟨rfl, rfl⟩ := hp; exact k)
theorem i_M_123i (F : fx_ p s m args c cc nL R_M X) {rest : List Value} {d : Nat} {z : Int32} {τ : sg} (hM : mt_ l X y_M_count w_M_count d [.ref (adr X 28)] σ (ei_ z τ)) (hR : d + 1 ≤ R.frames ∧ 8 + (5 + 11) + 30 * d ≤ R.locals) (hw : (rest.map fun v => v.category).sum ≤ 8) (hd : decode cc pc = .ok (.invokevirtual 123, 3)) (k : vv_ p l e R s m args below meth c Q X nL L τ (pc + 3) (.int z :: rest)) : vv_ p l e R s m args below meth c Q X nL L σ pc (.ref (adr X 28) :: rest) :=
  qv_callV F (maxL := 5) (ret := (some .boolean)) (n := 0) (as := []) (rest := rest) 28 rfl rfl (by decide +kernel) (by decide +kernel) (by decide +kernel) (by decide +kernel) (by decide +kernel) (by decide +kernel) hM rfl hR hw hd (fun r τ' hp => by obtain ⟨rfl, rfl⟩ := hp; exact k)
theorem i_M_130i (F : fx_ p s m args c cc nL R_M X) {rest : List Value} {d : Nat} {z : Int32} {τ : sg} (hM : mt_ l X y_M_round w_M_round d [.ref (adr X 28)] σ (ei_ z τ)) (hR : d + 1 ≤ R.frames ∧ 8 + (5 + 11) + 30 * d ≤ R.locals) (hw : (rest.map fun v => v.category).sum ≤ 8) (hd : decode cc pc = .ok (.invokevirtual 130, 3)) (k : vv_ p l e R s m args below meth c Q X nL L τ (pc + 3) (.int z :: rest)) : vv_ p l e R s m args below meth c Q X nL L σ pc (.ref (adr X 28) :: rest) :=
  qv_callV F (maxL := 5) (ret := (some .boolean)) (n := 0) (as := []) (rest := rest) 28 rfl rfl (by decide +kernel) (by decide +kernel) (by decide +kernel) (by decide +kernel) (by decide +kernel) (by decide +kernel) hM rfl hR hw hd (fun r τ' hp => by obtain ⟨rfl, rfl⟩ := hp; exact k)
theorem i_M_133i (F : fx_ p s m args c cc nL R_M X) {v0 : Value} {rest : List Value} {d : Nat} {z : Int32} {τ : sg} (hM : mt_ l X y_M_bits w_M_bits d [v0] σ (ei_ z τ)) (hR : d + 1 ≤ R.frames ∧ 8 + (3 + 11) + 30 * d ≤ R.locals) (hw : (rest.map fun v => v.category).sum ≤ 8) (hd : decode cc pc = .ok (.invokestatic 133, 3)) (k : vv_ p l e R s m args below meth c Q X nL L τ (pc + 3) (.int z :: rest)) : vv_ p l e R s m args below meth c Q X nL L σ pc (v0 :: rest) :=
  qv_callS F (maxL := 3) (ret := (some .int)) (n := 1) (as := [v0]) (rest := rest) (by decide +kernel) (by decide +kernel) (by decide +kernel) (by decide +kernel) (by decide +kernel) hM rfl hR hw hd (fun r τ' hp => by obtain ⟨rfl, rfl⟩ := hp; exact k)
end RW
end
section
/-! the reference: the sum at the end of solve -/
set_option maxRecDepth 100000 in
set_option maxHeartbeats 4000000 in
theorem ms_sum (l : Launch) (X : wX) (σ : sg) (r : rs_) (hB : B_ r) {zp : Program} {ze : Env} {zs : State} {zm : MethodId} {za : Array Value} {zb : List Frame} {zt : Method} {zc : Code} (F : fx_ zp zs zm za zc b_M_solve 4 R_M X) (hr : zt.sig.returnType = some .int) (hlk : zt.locks = false) {x1 : Int32} : vv_ zp l ze (rr_ 4) zs zm za zb zt zc (MQ zb (mq_ X (ei_ (nI (sp_ r.1 128)) (mr_ σ r))) za zs 0 0 (aw_ X)) X 4 [(3, .int (nI 0)), (2, .int (nI 0)), (1, .int x1), (0, .ref (adr X 28))] (mr_ σ r) 177 [] := by
  have lp := lu_up (fun i (_ : Unit) => vv_ zp l ze (rr_ 4) zs zm za zb zt zc (MQ zb (mq_ X (ei_ (nI (sp_ r.1 128)) (mr_ σ r))) za zs 0 0 (aw_ X)) X 4 [(3, .int (nI i)), (2, .int (nI (sp_ r.1 i))), (1, .int x1), (0, .ref (adr X 28))] (mr_ σ r) 177 []) (fun _ _ => True) 128 ?_ ?_ 0 () (Nat.zero_le _) trivial
  · exact lp
  · intro _ _
    refine qv_iload_n F d_M_solve_177 0 rfl ?_
    refine qv_sipush F (nI 128) d_M_solve_178 sic_128 ?_
    refine qv_icmpge F d_M_solve_181 rfl (by decide) (by decide) (fun hb => ?_) (fun hb => ?_)
    ·
      refine qv_iload_n F d_M_solve_202 1 rfl ?_
      exact qv_iret F hr hlk d_M_solve_203 (ei_of rfl rfl)
    ·
      exact absurd hb (by decide)
  · intro i _ hi _ ih
    refine qv_iload_n F d_M_solve_177 0 rfl ?_
    refine qv_sipush F (nI 128) d_M_solve_178 sic_128 ?_
    refine qv_icmpge F d_M_solve_181 rfl (by omega) (by omega) (fun hb => ?_) (fun hb => ?_)
    ·
      omega
    ·
      refine qv_iload_n F d_M_solve_184 1 rfl ?_
      refine qv_aload_n F d_M_solve_185 3 rfl ?_
      refine g_M_62 F d_M_solve_186 ?_
      refine qv_iload_n F d_M_solve_189 0 rfl ?_
      refine ld_46 F hi d_M_solve_190 ?_
      refine i_M_133i F (c_M_bits l X (mr_ σ r) (r.1 i) (hB.1 i)) (by decide) (Nat.le_of_ble_eq_true rfl) d_M_solve_191 ?_
      refine qv_iadd F d_M_solve_194 ?_
      refine qv_istore_n (L' := [(2, _), (3, _), (1, _), (0, _)]) F d_M_solve_195 (by decide) rfl ?_
      refine qv_sub (L' := [(3, _), (2, _), (1, _), (0, _)]) [1, 0, 2, 3] rfl ?_
      refine qv_iinc (L' := [(3, _), (2, _), (1, _), (0, _)]) F _ d_M_solve_196 0 rfl (ii_1 _) (by decide) rfl ?_
      refine qv_goto F d_M_solve_199 rfl ?_
      exact ih () trivial
/-! the reference: solve, size -/
def fsM_ (σ : sg) : rs_ := fin_ (mo_ σ) (ct2_ (mo_ σ) (σ 28 7)) (fb_ (mo_ σ) (σ 28 7) (σ 44)) (σ 28 2) (σ 28 7)
def gM_ (σ : sg) : Bool := gd_ (so_ (mo_ σ) (cr_ (mo_ σ) (σ 28 7)) (σ 28 7))
set_option maxRecDepth 100000 in
set_option maxHeartbeats 4000000 in
theorem c_M_solve (l : Launch) (X : wX) (σ : sg) (hn : σ 28 2 ≤ 40) (hc : σ 28 7 ≤ 8) (ht : tw_ (mo_ σ)) : mt_ l X y_M_solve w_M_solve 4 [.ref (adr X 28)] σ (ei_ (if gM_ σ = true then nI (sp_ (fsM_ σ).1 128) else -3) (if gM_ σ = true then mr_ (my_ σ) (fsM_ σ) else mn2_ σ)) := by
  refine mt_of (own := R_M) rfl pl_M (Nat.le_of_ble_eq_true rfl) ?_
  intro zp ze zs zm za zb zt zc F hr hlk
  refine qv_sub (L' := [(0, _)]) [0] rfl ?_
  have h11 : ∀ k, σ 35 k < 4 := ht.2.2.2.2.2.2.1
  have h12 : ∀ k, σ 36 k < 4 := ht.2.2.2.2.2.2.2.1
  have hok : ok_ (mo_ σ) (cr_ (mo_ σ) (σ 28 7)) (σ 28 7) := ok_cr h11 h12 (σ 28 7)
  have hgd : gd_ (S5_ (mo_ σ) (cr_ (mo_ σ) (σ 28 7)) (σ 28 7)) = gM_ σ := gd_S5 hok
  refine qv_aload_n F d_M_solve_0 0 rfl ?_
  refine i_M_120v F (c_M_reaches l X σ hc h11 h12) (by decide) (Nat.le_of_ble_eq_true rfl) d_M_solve_1 ?_
  refine qv_aload_n F d_M_solve_4 0 rfl ?_
  refine i_M_123i F (c_M_count l X (ua σ 41 (rch_ (cr_ (mo_ σ) (σ 28 7)))) hc (cr_ (mo_ σ) (σ 28 7)) h11 h12 rfl) (by decide) (Nat.le_of_ble_eq_true rfl) d_M_solve_5 ?_
  rw [S5_cg (t := mo_ (ua σ 41 (rch_ (cr_ (mo_ σ) (σ 28 7))))) (t' := mo_ σ) rfl rfl]
  refine qv_stk (st' := [.int (nI (gM_ σ).toNat)]) (by rw [← hgd]; rfl) ?_
  refine qv_st (σ' := mn2_ σ) rfl ?_
  refine qv_ifneB F d_M_solve_8 rfl (fun hb => ?_) (fun hb => ?_)
  ·
    have hg : gM_ σ = true := hb
    have hw : ∀ k, ft_ (mo_ σ) k < 256 := ft_lt _
    have hm8 : ∀ k, ct2_ (mo_ σ) (σ 28 7) k ≤ 8 := ct2_8 hg
    have hb8 : ∀ k, k < σ 28 7 → fb_ (mo_ σ) (σ 28 7) (σ 44) k + ct2_ (mo_ σ) (σ 28 7) (σ 35 k) ≤ 8 := fun k hk => fb_8 hok hg hk
    rw [hg, if_pos rfl, if_pos rfl]
    refine qv_iconst F (nI 0) d_M_solve_14 ic_0 ?_
    refine qv_istore_n (L' := [(1, _), (0, _)]) F d_M_solve_15 (by decide) rfl ?_
    have lp := lu_up (fun i (g : Nat → Nat) => vv_ zp l ze (rr_ 4) zs zm za zb zt zc (MQ zb (mq_ X (ei_ (nI (sp_ (fsM_ σ).1 128)) (mr_ (my_ σ) (fsM_ σ)))) za zs 0 0 (aw_ X)) X 4 [(1, .int (nI i)), (0, .ref (adr X 28))] (ua (mn2_ σ) 43 g) 16 []) (fun i g => ∀ k, k < i → g k = S5_ (mo_ σ) (cr_ (mo_ σ) (σ 28 7)) (σ 28 7) k) 4 ?_ ?_ 0 (σ 43) (Nat.zero_le _) (fun k hk => by omega)
    · exact qv_st (ua_id (mn2_ σ) 43).symm lp
    · intro g hI
      refine qv_ext 43 (z := false) (n := 4) (g := ct2_ (mo_ σ) (σ 28 7)) rfl (fun k hk => ?_) ?_
      · show ct2_ (mo_ σ) (σ 28 7) k = g k
        rw [hI k hk, S5_so hok hg hk]
        unfold ct2_
        rw [if_pos hk]
      rw [ua_ua, my_0]
      refine qv_iload_n F d_M_solve_16 0 rfl ?_
      refine qv_iconst F (nI 4) d_M_solve_17 ic_4 ?_
      refine qv_icmpge F d_M_solve_18 rfl (by decide) (by decide) (fun hb => ?_) (fun hb => ?_)
      ·
        refine qv_iconst F (nI 0) d_M_solve_39 ic_0 ?_
        refine qv_istore_n (L' := [(1, _), (0, _)]) F d_M_solve_40 (by decide) rfl ?_
        have lpb := lu_up (fun i (a : (Nat → Nat) × (Nat → Nat)) => vv_ zp l ze (rr_ 4) zs zm za zb zt zc (MQ zb (mq_ X (ei_ (nI (sp_ (fsM_ σ).1 128)) (mr_ (my_ σ) (fsM_ σ)))) za zs 0 0 (aw_ X)) X 4 [(1, .int (nI i)), (0, .ref (adr X 28))] (my0_ σ a.1 a.2) 41 []) (fun i a => (∀ k, a.1 k = if k < i then ba_ (mo_ σ) (cr_ (mo_ σ) (σ 28 7)) (so_ (mo_ σ) (cr_ (mo_ σ) (σ 28 7)) (σ 28 7)) k else σ 44 k) ∧ ∀ k, a.2 k = if k < i then σ 35 k else σ 45 k) (σ 28 7) ?_ ?_ 0 (σ 44, σ 45) (Nat.zero_le _) ⟨fun k => by rw [if_neg (by omega)], fun k => by rw [if_neg (by omega)]⟩
        · exact lpb
        · intro a hI
          obtain ⟨b, sc⟩ := a
          have eb : b = fb_ (mo_ σ) (σ 28 7) (σ 44) := by funext k; exact hI.1 k
          have es : sc = fun k => if k < σ 28 7 then σ 35 k else σ 45 k := by funext k; exact hI.2 k
          subst eb
          subst es
          refine qv_iload_n F d_M_solve_41 0 rfl ?_
          refine qv_aload_n F d_M_solve_42 1 rfl ?_
          refine g_M_86 F d_M_solve_43 ?_
          refine qv_icmpge F d_M_solve_46 rfl (show σ 28 7 < 2 ^ 31 by omega) (show σ 28 7 < 2 ^ 31 by omega) (fun hb => ?_) (fun hb => ?_)
          ·
            refine qv_aload_n F d_M_solve_96 1 rfl ?_
            refine qv_aload_n F d_M_solve_97 1 rfl ?_
            refine g_M_86 F d_M_solve_98 ?_
            refine p_M_127 F d_M_solve_101 ?_
            refine qv_st (σ' := my_ σ) rfl ?_
            refine qv_iconst F (nI 0) d_M_solve_104 ic_0 ?_
            refine qv_istore_n (L' := [(1, _), (0, _)]) F d_M_solve_105 (by decide) rfl ?_
            have lpp := lu_up (fun i (g : Nat → Nat) => vv_ zp l ze (rr_ 4) zs zm za zb zt zc (MQ zb (mq_ X (ei_ (nI (sp_ (fsM_ σ).1 128)) (mr_ (my_ σ) (fsM_ σ)))) za zs 0 0 (aw_ X)) X 4 [(1, .int (nI i)), (0, .ref (adr X 28))] (ua (my_ σ) 46 g) 106 []) (fun i g => ∀ k, k < i → g k = 0) 128 ?_ ?_ 0 (σ 46) (Nat.zero_le _) (fun k hk => by omega)
            · exact qv_st (ua_id (my_ σ) 46).symm lpp
            · intro g hg0
              refine qv_ext 46 (z := false) (n := 128) (g := fun _ => 0) rfl (fun k hk => by rw [ua_eq]; exact (hg0 k hk).symm) ?_
              rw [ua_ua]
              refine qv_iload_n F d_M_solve_106 0 rfl ?_
              refine qv_sipush F (nI 128) d_M_solve_107 sic_128 ?_
              refine qv_icmpge F d_M_solve_110 rfl (by decide) (by decide) (fun hb => ?_) (fun hb => ?_)
              ·
                refine qv_iconst F (nI 0) d_M_solve_126 ic_0 ?_
                refine qv_istore_n (L' := [(1, _), (0, _)]) F d_M_solve_127 (by decide) rfl ?_
                have lph := lu_up (fun i (g : Nat → Nat) => vv_ zp l ze (rr_ 4) zs zm za zb zt zc (MQ zb (mq_ X (ei_ (nI (sp_ (fsM_ σ).1 128)) (mr_ (my_ σ) (fsM_ σ)))) za zs 0 0 (aw_ X)) X 4 [(1, .int (nI i)), (0, .ref (adr X 28))] (ua (ua (my_ σ) 46 fun _ => 0) 47 g) 128 []) (fun i g => ∀ k, k < i → g k = 0) 16 ?_ ?_ 0 (σ 47) (Nat.zero_le _) (fun k hk => by omega)
                · exact qv_st (ua_id (ua (my_ σ) 46 fun _ => 0) 47).symm lph
                · intro g hg0
                  refine qv_ext 47 (z := false) (n := 16) (g := fun _ => 0) rfl (fun k hk => by rw [ua_eq]; exact (hg0 k hk).symm) ?_
                  rw [ua_ua, mr_z (my_ σ) (fun _ => 0) (fun _ => 0) 1]
                  refine qv_iload_n F d_M_solve_128 0 rfl ?_
                  refine qv_bipush F (nI 16) d_M_solve_129 bic_16 ?_
                  refine qv_icmpge F d_M_solve_131 rfl (by decide) (by decide) (fun hb => ?_) (fun hb => ?_)
                  ·
                    refine qv_iconst F (nI 1) d_M_solve_147 ic_1 ?_
                    refine qv_istore_n (L' := [(1, _), (0, _)]) F d_M_solve_148 (by decide) rfl ?_
                    refine qv_iconst F (nI 0) d_M_solve_149 ic_0 ?_
                    refine qv_istore_n (L' := [(2, _), (1, _), (0, _)]) F d_M_solve_150 (by decide) rfl ?_
                    have lpr := lu_up (fun i (r : rs_) => vv_ zp l ze (rr_ 4) zs zm za zb zt zc (MQ zb (mq_ X (ei_ (nI (sp_ (fsM_ σ).1 128)) (mr_ (my_ σ) (fsM_ σ)))) za zs 0 0 (aw_ X)) X 4 [(2, .int (nI i)), (1, .int (nI r.2.2)), (0, .ref (adr X 28))] (mr_ (my_ σ) r) 151 []) (fun i r => B_ r ∧ fl_ r ∧ lo_ (rd_ (mo_ σ) (ft_ (mo_ σ)) (ct2_ (mo_ σ) (σ 28 7)) (fb_ (mo_ σ) (σ 28 7) (σ 44)) (σ 28 2) (σ 28 7)) (1200 - i) r = fsM_ σ) 1200 ?_ ?_ 0 (fun _ => 0, fun _ => 0, 1) (Nat.zero_le _) ⟨B_0 1, Or.inr rfl, (lo_same ht hw (fun a _ => hm8 a) hb8 _ (B_0 1)).symm⟩
                    · exact lpr
                    · intro r hI2
                      have hI3 : r = fsM_ σ := hI2.2.2
                      have hB := hI2.1
                      have hfl : r.2.2 < 2 ^ 31 := by rcases hI2.2.1 with h | h <;> rw [h] <;> decide
                      rw [← hI3]
                      refine qv_iload_n F d_M_solve_151 0 rfl ?_
                      refine qv_sipush F (nI 1200) d_M_solve_152 sic_1200 ?_
                      refine qv_icmpge F d_M_solve_155 rfl (by decide) (by decide) (fun hb => ?_) (fun hb => ?_)
                      ·
                        refine qv_iconst F (nI 0) d_M_solve_173 ic_0 ?_
                        refine qv_istore_n (L' := [(2, _), (1, _), (0, _)]) F d_M_solve_174 (by decide) rfl ?_
                        refine qv_iconst F (nI 0) d_M_solve_175 ic_0 ?_
                        refine qv_istore_n (L' := [(3, _), (2, _), (1, _), (0, _)]) F d_M_solve_176 (by decide) rfl ?_
                        refine qv_sub (L' := [(3, _), (2, _), (1, _), (0, _)]) [0, 1, 2, 3] rfl ?_
                        exact ms_sum l X (my_ σ) r hB F hr hlk
                      ·
                        exact absurd hb (by decide)
                    · intro i r hi hI2 ih
                      obtain ⟨hB, hf, hS⟩ := hI2
                      have hfl : r.2.2 < 2 ^ 31 := by rcases hf with h | h <;> rw [h] <;> decide
                      refine qv_iload_n F d_M_solve_151 0 rfl ?_
                      refine qv_sipush F (nI 1200) d_M_solve_152 sic_1200 ?_
                      refine qv_icmpge F d_M_solve_155 rfl (by omega) (by omega) (fun hb => ?_) (fun hb => ?_)
                      ·
                        omega
                      ·
                        refine qv_iload_n F d_M_solve_158 1 rfl ?_
                        refine qv_ifeq F d_M_solve_159 rfl hfl (fun hb => ?_) (fun hb => ?_)
                        ·
                          rw [lo_0 hb] at hS
                          rw [← hS]
                          refine qv_iconst F (nI 0) d_M_solve_173 ic_0 ?_
                          refine qv_istore_n (L' := [(2, _), (1, _), (0, _)]) F d_M_solve_174 (by decide) rfl ?_
                          refine qv_iconst F (nI 0) d_M_solve_175 ic_0 ?_
                          refine qv_istore_n (L' := [(3, _), (2, _), (1, _), (0, _)]) F d_M_solve_176 (by decide) rfl ?_
                          refine qv_sub (L' := [(3, _), (2, _), (1, _), (0, _)]) [0, 1, 2, 3] rfl ?_
                          exact ms_sum l X (my_ σ) r hB F hr hlk
                        ·
                          have hne := hb
                          have hB0 : B_ (mg_ (mr_ (my_ σ) r) 0) := hB
                          refine qv_aload_n F d_M_solve_162 2 rfl ?_
                          refine i_M_130i F (c_M_round l X (mr_ (my_ σ) r) hn hc hm8 hb8 ht hB0) (by decide) (Nat.le_of_ble_eq_true rfl) d_M_solve_163 ?_
                          rw [mr_mr]
                          have e1 : rd_ (mo_ (mr_ (my_ σ) r)) = rd_ (mo_ σ) := by
                            funext w mn bs ns nc s
                            unfold rd_
                            rw [ss_cg (t := mo_ (mr_ (my_ σ) r)) (t' := mo_ σ) rfl rfl rfl rfl, cs_cg (t := mo_ (mr_ (my_ σ) r)) (t' := mo_ σ) rfl rfl rfl rfl rfl]
                          have e2 : ft_ (mo_ (mr_ (my_ σ) r)) = ft_ (mo_ σ) := ft_cg rfl rfl
                          rw [e1, e2]
                          have ih := ih (rd_ (mo_ σ) (ft_ (mo_ σ)) (ct2_ (mo_ σ) (σ 28 7)) (fb_ (mo_ σ) (σ 28 7) (σ 44)) (σ 28 2) (σ 28 7) r) ⟨rd_B hw hB, rd_fl, ?_⟩
                          · refine qv_st (σ' := mr_ (my_ σ) (rd_ (mo_ σ) (ft_ (mo_ σ)) (ct2_ (mo_ σ) (σ 28 7)) (fb_ (mo_ σ) (σ 28 7) (σ 44)) (σ 28 2) (σ 28 7) r)) rfl ?_
                            refine qv_stk (st' := [.int (nI (rd_ (mo_ σ) (ft_ (mo_ σ)) (ct2_ (mo_ σ) (σ 28 7)) (fb_ (mo_ σ) (σ 28 7) (σ 44)) (σ 28 2) (σ 28 7) r).2.2)]) rfl ?_
                            refine qv_istore_n (L' := [(1, _), (2, _), (0, _)]) F d_M_solve_166 (by decide) rfl ?_
                            refine qv_sub (L' := [(2, _), (1, _), (0, _)]) [1, 0, 2] rfl ?_
                            refine qv_iinc (L' := [(2, _), (1, _), (0, _)]) F _ d_M_solve_167 0 rfl (ii_1 _) (by decide) rfl ?_
                            refine qv_goto F d_M_solve_170 rfl ?_
                            exact ih
                          · have e3 : 1200 - i = (1200 - (i + 1)) + 1 := by omega
                            rw [e3] at hS
                            rw [← hS]
                            exact (if_neg hne).symm
                  ·
                    exact absurd hb (by decide)
                · intro i g hi hg0 ih
                  refine qv_iload_n F d_M_solve_128 0 rfl ?_
                  refine qv_bipush F (nI 16) d_M_solve_129 bic_16 ?_
                  refine qv_icmpge F d_M_solve_131 rfl (by omega) (by omega) (fun hb => ?_) (fun hb => ?_)
                  ·
                    omega
                  ·
                    refine qv_aload_n F d_M_solve_134 1 rfl ?_
                    refine g_M_65 F d_M_solve_135 ?_
                    refine qv_iload_n F d_M_solve_138 0 rfl ?_
                    refine qv_iconst F (nI 0) d_M_solve_139 ic_0 ?_
                    refine sv_47 F hi d_M_solve_140 ?_
                    refine qv_st (us_ua (ua (my_ σ) 46 fun _ => 0) 47 g i 0) ?_
                    refine qv_iinc (L' := [(1, _), (0, _)]) F _ d_M_solve_141 0 rfl (ii_1 _) (by decide) rfl ?_
                    refine qv_goto F d_M_solve_144 rfl ?_
                    refine ih _ (fun k hk => ?_)
                    by_cases e : k = i
                    · subst e; exact up_eq _ _ _
                    · rw [up_ne e]; exact hg0 k (by omega)
              ·
                exact absurd hb (by decide)
            · intro i g hi hg0 ih
              refine qv_iload_n F d_M_solve_106 0 rfl ?_
              refine qv_sipush F (nI 128) d_M_solve_107 sic_128 ?_
              refine qv_icmpge F d_M_solve_110 rfl (by omega) (by omega) (fun hb => ?_) (fun hb => ?_)
              ·
                omega
              ·
                refine qv_aload_n F d_M_solve_113 1 rfl ?_
                refine g_M_62 F d_M_solve_114 ?_
                refine qv_iload_n F d_M_solve_117 0 rfl ?_
                refine qv_iconst F (nI 0) d_M_solve_118 ic_0 ?_
                refine sv_46 F hi d_M_solve_119 ?_
                refine qv_st (us_ua (my_ σ) 46 g i 0) ?_
                refine qv_iinc (L' := [(1, _), (0, _)]) F _ d_M_solve_120 0 rfl (ii_1 _) (by decide) rfl ?_
                refine qv_goto F d_M_solve_123 rfl ?_
                refine ih _ (fun k hk => ?_)
                by_cases e : k = i
                · subst e; exact up_eq _ _ _
                · rw [up_ne e]; exact hg0 k (by omega)
          ·
            exact absurd (show σ 28 7 < σ 28 7 from hb) (by omega)
        · intro i a hi hI ih
          obtain ⟨b, sc⟩ := a
          have hI1 : ∀ k, b k = if k < i then ba_ (mo_ σ) (cr_ (mo_ σ) (σ 28 7)) (so_ (mo_ σ) (cr_ (mo_ σ) (σ 28 7)) (σ 28 7)) k else σ 44 k := hI.1
          have hI2 : ∀ k, sc k = if k < i then σ 35 k else σ 45 k := hI.2
          have hst : ∀ x, x = ba_ (mo_ σ) (cr_ (mo_ σ) (σ 28 7)) (so_ (mo_ σ) (cr_ (mo_ σ) (σ 28 7)) (σ 28 7)) i → (∀ k, va_up b i x k = if k < i + 1 then ba_ (mo_ σ) (cr_ (mo_ σ) (σ 28 7)) (so_ (mo_ σ) (cr_ (mo_ σ) (σ 28 7)) (σ 28 7)) k else σ 44 k) ∧ ∀ k, va_up sc i (σ 35 i) k = if k < i + 1 then σ 35 k else σ 45 k := by
            intro x hx
            refine ⟨fun k => ?_, fun k => ?_⟩
            · by_cases e : k = i
              · subst e; rw [up_eq, if_pos (by omega), hx]
              · rw [up_ne e, hI1 k]
                by_cases e2 : k < i
                · rw [if_pos e2, if_pos (by omega)]
                · rw [if_neg e2, if_neg (by omega)]
            · by_cases e : k = i
              · subst e; rw [up_eq, if_pos (by omega)]
              · rw [up_ne e, hI2 k]
                by_cases e2 : k < i
                · rw [if_pos e2, if_pos (by omega)]
                · rw [if_neg e2, if_neg (by omega)]
          have hso : ∀ a, a < 4 → S5_ (mo_ σ) (cr_ (mo_ σ) (σ 28 7)) (σ 28 7) a = so_ (mo_ σ) (cr_ (mo_ σ) (σ 28 7)) (σ 28 7) a := fun a ha => S5_so hok hg ha
          refine qv_iload_n F d_M_solve_41 0 rfl ?_
          refine qv_aload_n F d_M_solve_42 1 rfl ?_
          refine g_M_86 F d_M_solve_43 ?_
          refine qv_icmpge F d_M_solve_46 rfl (by omega) (show σ 28 7 < 2 ^ 31 by omega) (fun hb => ?_) (fun hb => ?_)
          ·
            exact absurd (show σ 28 7 ≤ i from hb) (by omega)
          ·
            refine qv_aload_n F d_M_solve_49 1 rfl ?_
            refine g_M_56 F d_M_solve_50 ?_
            refine qv_iload_n F d_M_solve_53 0 rfl ?_
            refine qv_aload_n F d_M_solve_54 1 rfl ?_
            refine qv_iload_n F d_M_solve_55 0 rfl ?_
            refine i_M_92i F (c_M_isOuter l X (my0_ σ b sc) (cr_ (mo_ σ) (σ 28 7)) i (by omega) h11 h12 rfl) (by decide) (Nat.le_of_ble_eq_true rfl) d_M_solve_56 ?_
            refine qv_ifeqB F d_M_solve_59 rfl (fun hb => ?_) (fun hb => ?_)
            ·
              have hb : ou_ (mo_ σ) (cr_ (mo_ σ) (σ 28 7)) i = false := hb
              refine qv_iconst F (nI 0) d_M_solve_76 ic_0 ?_
              refine sv_44 F (show i < 8 by omega) d_M_solve_77 ?_
              refine qv_aload_n F d_M_solve_78 1 rfl ?_
              refine g_M_59 F d_M_solve_79 ?_
              refine qv_iload_n F d_M_solve_82 0 rfl ?_
              refine qv_aload_n F d_M_solve_83 1 rfl ?_
              refine g_M_28 F d_M_solve_84 ?_
              refine qv_iload_n F d_M_solve_87 0 rfl ?_
              refine ld_35 F (show i < 8 by omega) d_M_solve_88 ?_
              refine sv_45 F (show i < 8 by omega) d_M_solve_89 ?_
              refine qv_st (my_b σ b sc i 0 (σ 35 i)) ?_
              refine qv_iinc (L' := [(1, _), (0, _)]) F _ d_M_solve_90 0 rfl (ii_1 _) (by decide) rfl ?_
              refine qv_goto F d_M_solve_93 rfl ?_
              exact ih (va_up b i 0, va_up sc i (σ 35 i)) (hst 0 (by unfold ba_; rw [if_neg (by rw [hb]; decide)]))
            ·
              have hb : ou_ (mo_ σ) (cr_ (mo_ σ) (σ 28 7)) i = true := hb
              have ebr : br_ (mo_ (my0_ σ b sc)) (cr_ (mo_ σ) (σ 28 7)) (my0_ σ b sc 42) (σ 36 i) i = ba_ (mo_ σ) (cr_ (mo_ σ) (σ 28 7)) (so_ (mo_ σ) (cr_ (mo_ σ) (σ 28 7)) (σ 28 7)) i := by
                unfold ba_
                rw [if_pos hb, br_cg (t := mo_ (my0_ σ b sc)) (t' := mo_ σ) rfl rfl]
                exact br_fe h11 hso i
              refine qv_aload_n F d_M_solve_62 1 rfl ?_
              refine qv_aload_n F d_M_solve_63 1 rfl ?_
              refine g_M_31 F d_M_solve_64 ?_
              refine qv_iload_n F d_M_solve_67 0 rfl ?_
              refine ld_36 F (show i < 8 by omega) d_M_solve_68 ?_
              refine qv_iload_n F d_M_solve_69 0 rfl ?_
              refine i_M_96i F (c_M_brought l X (my0_ σ b sc) (cr_ (mo_ σ) (σ 28 7)) (σ 36 i) i (by omega) (h12 i) h11 h12 rfl) (by decide) (Nat.le_of_ble_eq_true rfl) d_M_solve_70 ?_
              refine qv_goto F d_M_solve_73 rfl ?_
              refine sv_44 F (show i < 8 by omega) d_M_solve_77 ?_
              refine qv_aload_n F d_M_solve_78 1 rfl ?_
              refine g_M_59 F d_M_solve_79 ?_
              refine qv_iload_n F d_M_solve_82 0 rfl ?_
              refine qv_aload_n F d_M_solve_83 1 rfl ?_
              refine g_M_28 F d_M_solve_84 ?_
              refine qv_iload_n F d_M_solve_87 0 rfl ?_
              refine ld_35 F (show i < 8 by omega) d_M_solve_88 ?_
              refine sv_45 F (show i < 8 by omega) d_M_solve_89 ?_
              refine qv_st (my_b σ b sc i _ (σ 35 i)) ?_
              refine qv_iinc (L' := [(1, _), (0, _)]) F _ d_M_solve_90 0 rfl (ii_1 _) (by decide) rfl ?_
              refine qv_goto F d_M_solve_93 rfl ?_
              exact ih (va_up b i _, va_up sc i (σ 35 i)) (hst _ ebr)
      ·
        exact absurd hb (by decide)
    · intro i g hi hI ih
      refine qv_iload_n F d_M_solve_16 0 rfl ?_
      refine qv_iconst F (nI 4) d_M_solve_17 ic_4 ?_
      refine qv_icmpge F d_M_solve_18 rfl (by omega) (by omega) (fun hb => ?_) (fun hb => ?_)
      ·
        omega
      ·
        refine qv_aload_n F d_M_solve_21 1 rfl ?_
        refine g_M_53 F d_M_solve_22 ?_
        refine qv_iload_n F d_M_solve_25 0 rfl ?_
        refine qv_aload_n F d_M_solve_26 1 rfl ?_
        refine g_M_50 F d_M_solve_27 ?_
        refine qv_iload_n F d_M_solve_30 0 rfl ?_
        refine ld_42 F hi d_M_solve_31 ?_
        refine sv_43 F hi d_M_solve_32 ?_
        refine qv_st (us_ua (mn2_ σ) 43 g i _) ?_
        refine qv_iinc (L' := [(1, _), (0, _)]) F _ d_M_solve_33 0 rfl (ii_1 _) (by decide) rfl ?_
        refine qv_goto F d_M_solve_36 rfl ?_
        refine ih _ (fun k hk => ?_)
        by_cases e : k = i
        · subst e; rw [up_eq]; rfl
        · rw [up_ne e]; exact hI k (by omega)
  ·
    have hg : gM_ σ = false := hb
    rw [hg]
    refine qv_bipush F (-3) d_M_solve_11 bic_m3 ?_
    exact qv_iret F hr hlk d_M_solve_13 (ei_of rfl rfl)
set_option maxRecDepth 100000 in
set_option maxHeartbeats 4000000 in
theorem c_M_size (l : Launch) (X : wX) (σ : sg) (x : Int32) (hc : σ 28 7 ≤ 8) (h13 : ∀ k, σ 37 k ≤ 4) (h47 : ∀ k, σ 47 k < 256) : mt_ l X y_M_size w_M_size 1 [.ref (adr X 28), .int x] σ (ei_ (sz_ (σ 28 2) (σ 28 7) (sm_ (σ 37) (σ 28 7)) (sp_ (σ 47) 16) (σ 28 22) x) σ) := by
  refine mt_of (own := R_M) rfl pl_M (Nat.le_of_ble_eq_true rfl) ?_
  intro zp ze zs zm za zb zt zc F hr hlk
  refine qv_sub (L' := [(0, _), (1, _)]) [0, 1] rfl ?_
  refine qv_iconst F (nI 0) d_M_size_0 ic_0 ?_
  refine qv_istore_n (L' := [(2, _), (0, _), (1, _)]) F d_M_size_1 (by decide) rfl ?_
  refine qv_iload_n F d_M_size_2 2 rfl ?_
  cases hx : wi_ x 5 with
  | false =>
    refine qv_tswI F d_M_size_3 (wi_out hx) (tgt := 106) rfl ?_
    refine qv_iconst F (-1) d_M_size_106 ic_m1 ?_
    exact qv_iret F hr hlk d_M_size_107 (ei_of (by unfold sz_; rw [hx]; rfl) rfl)
  | true =>
    obtain ⟨j, hj, rfl⟩ := wi_t (by decide) hx
    rcases (by omega : j = 0 ∨ j = 1 ∨ j = 2 ∨ j = 3 ∨ j = 4) with rfl | rfl | rfl | rfl | rfl
    ·
      refine qv_tsw F d_M_size_3 (by decide) (by decide) (by decide) (off := 33) (tgt := 36) rfl rfl ?_
      refine qv_aload_n F d_M_size_36 1 rfl ?_
      refine g_M_75 F d_M_size_37 ?_
      exact qv_iret F hr hlk d_M_size_40 (ei_of (by unfold sz_; rw [hx, tn_nI (by decide)]; rfl) rfl)
    ·
      refine qv_tsw F d_M_size_3 (by decide) (by decide) (by decide) (off := 38) (tgt := 41) rfl rfl ?_
      refine qv_aload_n F d_M_size_41 1 rfl ?_
      refine g_M_86 F d_M_size_42 ?_
      exact qv_iret F hr hlk d_M_size_45 (ei_of (by unfold sz_; rw [hx, tn_nI (by decide)]; rfl) rfl)
    ·
      refine qv_tsw F d_M_size_3 (by decide) (by decide) (by decide) (off := 43) (tgt := 46) rfl rfl ?_
      refine qv_iconst F (nI 0) d_M_size_46 ic_0 ?_
      refine qv_istore_n (L' := [(3, _), (2, _), (0, _), (1, _)]) F d_M_size_47 (by decide) rfl ?_
      have lp := lu_up (fun i (_ : Unit) => vv_ zp l ze (rr_ 1) zs zm za zb zt zc (MQ zb (mq_ X (ei_ (sz_ (σ 28 2) (σ 28 7) (sm_ (σ 37) (σ 28 7)) (sp_ (σ 47) 16) (σ 28 22) (nI 2)) σ)) za zs 0 0 (aw_ X)) X 4 [(3, .int (nI i)), (2, .int (nI (sm_ (σ 37) i))), (0, .ref (adr X 28)), (1, .int (nI 2))] σ 48 []) (fun _ _ => True) (σ 28 7) ?_ ?_ 0 () (Nat.zero_le _) trivial
      · exact lp
      · intro _ _
        refine qv_iload_n F d_M_size_48 0 rfl ?_
        refine qv_aload_n F d_M_size_49 2 rfl ?_
        refine g_M_86 F d_M_size_50 ?_
        refine qv_icmpge F d_M_size_53 rfl (by omega) (by omega) (fun hb => ?_) (fun hb => ?_)
        ·
          refine qv_iload_n F d_M_size_71 1 rfl ?_
          exact qv_iret F hr hlk d_M_size_72 (ei_of (by unfold sz_; rw [hx, tn_nI (by decide)]; rfl) rfl)
        ·
          omega
      · intro i _ hi _ ih
        refine qv_iload_n F d_M_size_48 0 rfl ?_
        refine qv_aload_n F d_M_size_49 2 rfl ?_
        refine g_M_86 F d_M_size_50 ?_
        refine qv_icmpge F d_M_size_53 rfl (by omega) (by omega) (fun hb => ?_) (fun hb => ?_)
        ·
          omega
        ·
          refine qv_iload_n F d_M_size_56 1 rfl ?_
          refine qv_aload_n F d_M_size_57 2 rfl ?_
          refine g_M_34 F d_M_size_58 ?_
          refine qv_iload_n F d_M_size_61 0 rfl ?_
          refine ld_37 F (by omega) d_M_size_62 ?_
          refine qv_iadd F d_M_size_63 ?_
          refine qv_istore_n (L' := [(2, _), (3, _), (0, _), (1, _)]) F d_M_size_64 (by decide) rfl ?_
          refine qv_sub (L' := [(3, _), (2, _), (0, _), (1, _)]) [1, 0, 2, 3] rfl ?_
          refine qv_iinc (L' := [(3, _), (2, _), (0, _), (1, _)]) F _ d_M_size_65 0 rfl (ii_1 _) (by decide) rfl ?_
          refine qv_goto F d_M_size_68 rfl ?_
          exact ih () trivial
    ·
      refine qv_tsw F d_M_size_3 (by decide) (by decide) (by decide) (off := 70) (tgt := 73) rfl rfl ?_
      refine qv_iconst F (nI 0) d_M_size_73 ic_0 ?_
      refine qv_istore_n (L' := [(3, _), (2, _), (0, _), (1, _)]) F d_M_size_74 (by decide) rfl ?_
      have lp := lu_up (fun i (_ : Unit) => vv_ zp l ze (rr_ 1) zs zm za zb zt zc (MQ zb (mq_ X (ei_ (sz_ (σ 28 2) (σ 28 7) (sm_ (σ 37) (σ 28 7)) (sp_ (σ 47) 16) (σ 28 22) (nI 3)) σ)) za zs 0 0 (aw_ X)) X 4 [(3, .int (nI i)), (2, .int (nI (sp_ (σ 47) i))), (0, .ref (adr X 28)), (1, .int (nI 3))] σ 75 []) (fun _ _ => True) 16 ?_ ?_ 0 () (Nat.zero_le _) trivial
      · exact lp
      · intro _ _
        refine qv_iload_n F d_M_size_75 0 rfl ?_
        refine qv_bipush F (nI 16) d_M_size_76 bic_16 ?_
        refine qv_icmpge F d_M_size_78 rfl (by decide) (by decide) (fun hb => ?_) (fun hb => ?_)
        ·
          refine qv_iload_n F d_M_size_99 1 rfl ?_
          exact qv_iret F hr hlk d_M_size_100 (ei_of (by unfold sz_; rw [hx, tn_nI (by decide)]; rfl) rfl)
        ·
          exact absurd hb (by decide)
      · intro i _ hi _ ih
        refine qv_iload_n F d_M_size_75 0 rfl ?_
        refine qv_bipush F (nI 16) d_M_size_76 bic_16 ?_
        refine qv_icmpge F d_M_size_78 rfl (by omega) (by omega) (fun hb => ?_) (fun hb => ?_)
        ·
          omega
        ·
          refine qv_iload_n F d_M_size_81 1 rfl ?_
          refine qv_aload_n F d_M_size_82 2 rfl ?_
          refine g_M_65 F d_M_size_83 ?_
          refine qv_iload_n F d_M_size_86 0 rfl ?_
          refine ld_47 F hi d_M_size_87 ?_
          refine i_M_133i F (c_M_bits l X σ (σ 47 i) (h47 i)) (by decide) (Nat.le_of_ble_eq_true rfl) d_M_size_88 ?_
          refine qv_iadd F d_M_size_91 ?_
          refine qv_istore_n (L' := [(2, _), (3, _), (0, _), (1, _)]) F d_M_size_92 (by decide) rfl ?_
          refine qv_sub (L' := [(3, _), (2, _), (0, _), (1, _)]) [1, 0, 2, 3] rfl ?_
          refine qv_iinc (L' := [(3, _), (2, _), (0, _), (1, _)]) F _ d_M_size_93 0 rfl (ii_1 _) (by decide) rfl ?_
          refine qv_goto F d_M_size_96 rfl ?_
          exact ih () trivial
    ·
      refine qv_tsw F d_M_size_3 (by decide) (by decide) (by decide) (off := 98) (tgt := 101) rfl rfl ?_
      refine qv_aload_n F d_M_size_101 1 rfl ?_
      refine g_M_139 F d_M_size_102 ?_
      exact qv_iret F hr hlk d_M_size_105 (ei_of (by unfold sz_; rw [hx, tn_nI (by decide)]; rfl) rfl)
end
