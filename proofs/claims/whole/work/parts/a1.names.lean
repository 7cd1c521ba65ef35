abbrev b_M_carry : ByteArray := prog_7_method_23_code
def y_M_carry : MethodName := ⟨R_M, "carry", "(II)Z"⟩
abbrev w_M_carry : List Cond := wz_ y_M_carry b_M_carry 9 (some .boolean)
abbrev b_M_round : ByteArray := prog_7_method_24_code
def y_M_round : MethodName := ⟨R_M, "round", "()Z"⟩
abbrev w_M_round : List Cond := wz_ y_M_round b_M_round 5 (some .boolean)
