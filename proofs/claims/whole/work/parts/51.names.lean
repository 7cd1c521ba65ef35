abbrev b_P_size : ByteArray := prog_1_method_18_code
def y_P_size : MethodName := ⟨R_P, "size", "(I)I"⟩
abbrev w_P_size : List Cond := wz_ y_P_size b_P_size 2 (some .int)
abbrev b_P_solve : ByteArray := prog_1_method_10_code
def y_P_solve : MethodName := ⟨R_P, "solve", "()I"⟩
abbrev w_P_solve : List Cond := wz_ y_P_solve b_P_solve 1 (some .int)
