section RW
variable {own : String} {p : Program} {l : Launch} {e : Env} {R : Room} {s : State} {m : MethodId} {args : Array Value} {below : List Frame} {meth : Method} {c : Code} {Q : State → Prop} {X : wX} {nL : Nat} {L : List (Nat × Value)} {σ : sg} {pc : Nat} {st : List Value} {cc : ByteArray}
theorem bic_9 : (Int8.ofInt (9)).toInt32 = nI 9 := by decide
theorem i_M_96i (F : fx_ p s m args c cc nL R_M X) {v0 v1 : Value} {rest : List Value} {d : Nat} {z : Int32} {τ : sg} (hM : mt_ l X y_M_brought w_M_brought d [.ref (adr X 28), v0, v1] σ (ei_ z τ)) (hR : d + 1 ≤ R.frames ∧ 8 + (5 + 11) + 30 * d ≤ R.locals) (hw : (rest.map fun v => v.category).sum ≤ 8) (hd : decode cc pc = .ok (.invokevirtual 96, 3)) (k : vv_ p l e R s m args below meth c Q X nL L τ (pc + 3) (.int z :: rest)) : vv_ p l e R s m args below meth c Q X nL L σ pc (v1 :: v0 :: .ref (adr X 28) :: rest) :=
  qv_callV F (maxL := 5) (ret := (some .int)) (n := 2) (as := [v0, v1]) (rest := rest) 28 rfl rfl (by decide +kernel) (by decide +kernel) (by decide +kernel) (by decide +kernel) (by decide +kernel) (by decide +kernel) hM rfl hR hw hd (fun r τ' hp => by obtain ⟨rfl, rfl⟩ := hp; exact k)
end RW
