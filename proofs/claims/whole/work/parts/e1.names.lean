abbrev b_L_law : ByteArray := code
def y_L_law : MethodName := ⟨R_L, "law", "([I)Z"⟩
abbrev w_L_law : List Cond := wz_ y_L_law b_L_law 4 (some .boolean)
