abbrev b_M_size : ByteArray := prog_7_method_39_code
def y_M_size : MethodName := ⟨R_M, "size", "(I)I"⟩
abbrev w_M_size : List Cond := wz_ y_M_size b_M_size 4 (some .int)
abbrev b_M_solve : ByteArray := prog_7_method_26_code
def y_M_solve : MethodName := ⟨R_M, "solve", "()I"⟩
abbrev w_M_solve : List Cond := wz_ y_M_solve b_M_solve 4 (some .int)
