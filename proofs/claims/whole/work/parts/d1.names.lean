abbrev b_M_nodes : ByteArray := prog_7_method_38_code
def y_M_nodes : MethodName := ⟨R_M, "nodes", "(I)I"⟩
abbrev w_M_nodes : List Cond := wz_ y_M_nodes b_M_nodes 8 (some .int)
