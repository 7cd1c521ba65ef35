abbrev b_T_renew : ByteArray := prog_5_method_7_code
def y_T_renew : MethodName := ⟨R_T, "renew", "(LPointerClones$Program;LPointerClones$Numbering;)V"⟩
abbrev w_T_renew : List Cond := wz_ y_T_renew b_T_renew 4 none
