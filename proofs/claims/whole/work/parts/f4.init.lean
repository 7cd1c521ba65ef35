set_option maxRecDepth 100000 in
set_option maxHeartbeats 4000000 in
theorem c_G_init (l : Launch) (D : va_G) (cI cZ : ClassId) (h0 : Nat) : cc_ l y_G_init (wz_ y_G_init b_G_init 1 none) 1 30 12 304 D cI cZ [.ref h0] [(h0, .inr (1, [.null, .null, .int (nI 0), .null, .null, .null, .null, .int (nI 0), .null, .null, .null, .null, .null, .null]))] (fun f => [(h0, .inr (1, [.ref (f 0), .ref (f 1), .int (nI 0), .ref (f 2), .ref (f 3), .ref (f 4), .ref (f 5), .int (nI 0), .ref (f 6), .ref (f 7), .ref (f 8), .ref (f 9), .ref (f 10), .ref (f 11)])), (f 0, .inl (cI, 8, .inl (fun _ => nI 0))), (f 1, .inl (cI, 16, .inl (fun _ => nI 15))), (f 2, .inl (cI, 40, .inl (fun _ => nI 0))), (f 3, .inl (cI, 40, .inl (fun _ => nI 0))), (f 4, .inl (cI, 40, .inl (fun _ => nI 0))), (f 5, .inl (cI, 40, .inl (fun _ => nI 0))), (f 6, .inl (cI, 8, .inl (fun _ => nI 0))), (f 7, .inl (cI, 8, .inl (fun _ => nI 0))), (f 8, .inl (cI, 8, .inl (fun _ => nI 0))), (f 9, .inl (cI, 32, .inl (fun _ => nI 0))), (f 10, .inl (cI, 32, .inl (fun _ => nI 0))), (f 11, .inl (cZ, 32, .inl (fun _ => nI 0)))]) := by
  intro sz
  refine Met.ofW (cc := b_G_init) (maxL := 1) (ret := none) (by decide) rfl ?_
  intro p e s m args below meth c s₁ B hml hv
  obtain ⟨rfl, hsz, hP, hk, hD0⟩ := hv
  have hx := B.exec
  have hb := B.bytes
  have hr := B.returns
  have hts0 := atoms_spec (ws := wz_ y_G_init b_G_init 1 none) B.pre
  have hts : ∀ w ∈ ak_, w.before #[Value.ref h0] s = true := fun w hw => hts0 w (List.mem_cons_of_mem _ hw)
  have hown : s.vm.findClass R_G = some m.cls := findClass_of_methodNamed B.named
  have hlocks := B.notSynchronized
  have hin : meth.name = "<init>" := (name_of_methodNamed B.named B.method).1
  have S0 : CallFix p m c b_G_init 1 s #[Value.ref h0] ak_ R_G := ⟨hx, hb, hml, hown, hts⟩
  subst hsz
  have hD := hD0.self (sz := s.heap.size)
  generalize hAe : va_A [(h0, .inr (1, [.null, .null, .int (nI 0), .null, .null, .null, .null, .int (nI 0), .null, .null, .null, .null, .null, .null]))] s.heap.size = A at hD ⊢
  have hA : ∀ q : Nat, s.heap.size ≤ q → A q := fun q h => by rw [← hAe]; exact Or.inr h
  have hS : va_S A s.heap s.heap [] := va_S.rf
  have hl := lv_entry ([.ref h0]) (n := 1) (Nat.le_of_ble_eq_true rfl)
  rw [lg_entry_eq]
  generalize (lg_sl ([.ref h0]) ++ List.replicate (1 - (lg_sl ([.ref h0])).length) Slot.unset).toArray = ls at hl ⊢
  have hl : lv_has ls 1 [(0, .ref h0)] := hl
  refine lv_aload_n hx hb d_G_init_0 rfl (lv_at hl 0 rfl) ?_
  refine ca_obj S0 hl.1 (by decide +kernel) (by decide) (Nat.le_of_ble_eq_true rfl) d_G_init_1 ?_
  refine lv_aload_n hx hb d_G_init_4 rfl (lv_at hl 0 rfl) ?_
  refine lv_bipush (v := nI 8) hx hb d_G_init_5 (by decide) ?_
  refine ca_newi S0 hk hP hD hS hA (N := 8) (by decide) (by decide) (by decide) d_G_init_7 (fun q7 H hP hD hS => ?_)
  have hP : va_P D cl_ [(h0, .inr (1, [.null, .null, .int (nI 0), .null, .null, .null, .null, .int (nI 0), .null, .null, .null, .null, .null, .null])), (q7, .inl (cI, 8, .inl (fun _ => nI 0)))] H := hP
  have hD : va_D A [(h0, .inr (1, [.null, .null, .int (nI 0), .null, .null, .null, .null, .int (nI 0), .null, .null, .null, .null, .null, .null])), (q7, .inl (cI, 8, .inl (fun _ => nI 0)))] := hD
  refine va_putF (D := D) (ci := 1) (v := .ref q7) (ty := .array .int) (C := R_G) (T := F_G) (N := 14) hx hb hts in_G tf_G tt_G nn_G hown hk.1 hP hD hS 0 rfl rfl 0 (by decide) (hts (.fieldLink R_G 9 R_G "kindOf" "[I") (by decide +kernel)) (fun _ h9 => h9) rfl hin rfl (by decide +kernel) rfl rfl (Nat.le_of_ble_eq_true rfl) d_G_init_9 (fun H locs hP hD hS => ?_)
  have hP : va_P D cl_ [(h0, .inr (1, [.ref q7, .null, .int (nI 0), .null, .null, .null, .null, .int (nI 0), .null, .null, .null, .null, .null, .null])), (q7, .inl (cI, 8, .inl (fun _ => nI 0)))] H := hP
  have hD : va_D A [(h0, .inr (1, [.ref q7, .null, .int (nI 0), .null, .null, .null, .null, .int (nI 0), .null, .null, .null, .null, .null, .null])), (q7, .inl (cI, 8, .inl (fun _ => nI 0)))] := hD
  refine lv_aload_n hx hb d_G_init_12 rfl (lv_at hl 0 rfl) ?_
  refine lv_bipush (v := nI 16) hx hb d_G_init_13 (by decide) ?_
  refine ca_newi S0 hk hP hD hS hA (N := 16) (by decide) (by decide) (by decide) d_G_init_15 (fun q15 H hP hD hS => ?_)
  have hP : va_P D cl_ [(h0, .inr (1, [.ref q7, .null, .int (nI 0), .null, .null, .null, .null, .int (nI 0), .null, .null, .null, .null, .null, .null])), (q7, .inl (cI, 8, .inl (fun _ => nI 0))), (q15, .inl (cI, 16, .inl (fun _ => nI 0)))] H := hP
  have hD : va_D A [(h0, .inr (1, [.ref q7, .null, .int (nI 0), .null, .null, .null, .null, .int (nI 0), .null, .null, .null, .null, .null, .null])), (q7, .inl (cI, 8, .inl (fun _ => nI 0))), (q15, .inl (cI, 16, .inl (fun _ => nI 0)))] := hD
  refine va_putF (D := D) (ci := 1) (v := .ref q15) (ty := .array .int) (C := R_G) (T := F_G) (N := 14) hx hb hts in_G tf_G tt_G nn_G hown hk.1 hP hD hS 0 rfl rfl 1 (by decide) (hts (.fieldLink R_G 15 R_G "acceptedBy" "[I") (by decide +kernel)) (fun _ h9 => h9) rfl hin rfl (by decide +kernel) rfl rfl (Nat.le_of_ble_eq_true rfl) d_G_init_17 (fun H locs hP hD hS => ?_)
  have hP : va_P D cl_ [(h0, .inr (1, [.ref q7, .ref q15, .int (nI 0), .null, .null, .null, .null, .int (nI 0), .null, .null, .null, .null, .null, .null])), (q7, .inl (cI, 8, .inl (fun _ => nI 0))), (q15, .inl (cI, 16, .inl (fun _ => nI 0)))] H := hP
  have hD : va_D A [(h0, .inr (1, [.ref q7, .ref q15, .int (nI 0), .null, .null, .null, .null, .int (nI 0), .null, .null, .null, .null, .null, .null])), (q7, .inl (cI, 8, .inl (fun _ => nI 0))), (q15, .inl (cI, 16, .inl (fun _ => nI 0)))] := hD
  refine lv_aload_n hx hb d_G_init_20 rfl (lv_at hl 0 rfl) ?_
  refine lv_iconst (v := nI 0) hx hb d_G_init_21 (by decide) ?_
  refine va_put (D := D) (ci := 1) (v := .int (nI 0)) (ty := .int) (C := R_G) (T := F_G) (N := 14) hx hb hts in_G tf_G tt_G nn_G hown hk.1 hP hD hS 0 rfl rfl 2 (by decide) (hts (.fieldLink R_G 18 R_G "statements" "I") (by decide +kernel)) (fun _ h9 => h9) rfl (by decide +kernel) rfl rfl (Nat.le_of_ble_eq_true rfl) d_G_init_22 (fun H locs hP hD hS => ?_)
  have hP : va_P D cl_ [(h0, .inr (1, [.ref q7, .ref q15, .int (nI 0), .null, .null, .null, .null, .int (nI 0), .null, .null, .null, .null, .null, .null])), (q7, .inl (cI, 8, .inl (fun _ => nI 0))), (q15, .inl (cI, 16, .inl (fun _ => nI 0)))] H := hP
  have hD : va_D A [(h0, .inr (1, [.ref q7, .ref q15, .int (nI 0), .null, .null, .null, .null, .int (nI 0), .null, .null, .null, .null, .null, .null])), (q7, .inl (cI, 8, .inl (fun _ => nI 0))), (q15, .inl (cI, 16, .inl (fun _ => nI 0)))] := hD
  refine lv_aload_n hx hb d_G_init_25 rfl (lv_at hl 0 rfl) ?_
  refine lv_bipush (v := nI 40) hx hb d_G_init_26 (by decide) ?_
  refine ca_newi S0 hk hP hD hS hA (N := 40) (by decide) (by decide) (by decide) d_G_init_28 (fun q28 H hP hD hS => ?_)
  have hP : va_P D cl_ [(h0, .inr (1, [.ref q7, .ref q15, .int (nI 0), .null, .null, .null, .null, .int (nI 0), .null, .null, .null, .null, .null, .null])), (q7, .inl (cI, 8, .inl (fun _ => nI 0))), (q15, .inl (cI, 16, .inl (fun _ => nI 0))), (q28, .inl (cI, 40, .inl (fun _ => nI 0)))] H := hP
  have hD : va_D A [(h0, .inr (1, [.ref q7, .ref q15, .int (nI 0), .null, .null, .null, .null, .int (nI 0), .null, .null, .null, .null, .null, .null])), (q7, .inl (cI, 8, .inl (fun _ => nI 0))), (q15, .inl (cI, 16, .inl (fun _ => nI 0))), (q28, .inl (cI, 40, .inl (fun _ => nI 0)))] := hD
  refine va_putF (D := D) (ci := 1) (v := .ref q28) (ty := .array .int) (C := R_G) (T := F_G) (N := 14) hx hb hts in_G tf_G tt_G nn_G hown hk.1 hP hD hS 0 rfl rfl 3 (by decide) (hts (.fieldLink R_G 22 R_G "form" "[I") (by decide +kernel)) (fun _ h9 => h9) rfl hin rfl (by decide +kernel) rfl rfl (Nat.le_of_ble_eq_true rfl) d_G_init_30 (fun H locs hP hD hS => ?_)
  have hP : va_P D cl_ [(h0, .inr (1, [.ref q7, .ref q15, .int (nI 0), .ref q28, .null, .null, .null, .int (nI 0), .null, .null, .null, .null, .null, .null])), (q7, .inl (cI, 8, .inl (fun _ => nI 0))), (q15, .inl (cI, 16, .inl (fun _ => nI 0))), (q28, .inl (cI, 40, .inl (fun _ => nI 0)))] H := hP
  have hD : va_D A [(h0, .inr (1, [.ref q7, .ref q15, .int (nI 0), .ref q28, .null, .null, .null, .int (nI 0), .null, .null, .null, .null, .null, .null])), (q7, .inl (cI, 8, .inl (fun _ => nI 0))), (q15, .inl (cI, 16, .inl (fun _ => nI 0))), (q28, .inl (cI, 40, .inl (fun _ => nI 0)))] := hD
  refine lv_aload_n hx hb d_G_init_33 rfl (lv_at hl 0 rfl) ?_
  refine lv_bipush (v := nI 40) hx hb d_G_init_34 (by decide) ?_
  refine ca_newi S0 hk hP hD hS hA (N := 40) (by decide) (by decide) (by decide) d_G_init_36 (fun q36 H hP hD hS => ?_)
  have hP : va_P D cl_ [(h0, .inr (1, [.ref q7, .ref q15, .int (nI 0), .ref q28, .null, .null, .null, .int (nI 0), .null, .null, .null, .null, .null, .null])), (q7, .inl (cI, 8, .inl (fun _ => nI 0))), (q15, .inl (cI, 16, .inl (fun _ => nI 0))), (q28, .inl (cI, 40, .inl (fun _ => nI 0))), (q36, .inl (cI, 40, .inl (fun _ => nI 0)))] H := hP
  have hD : va_D A [(h0, .inr (1, [.ref q7, .ref q15, .int (nI 0), .ref q28, .null, .null, .null, .int (nI 0), .null, .null, .null, .null, .null, .null])), (q7, .inl (cI, 8, .inl (fun _ => nI 0))), (q15, .inl (cI, 16, .inl (fun _ => nI 0))), (q28, .inl (cI, 40, .inl (fun _ => nI 0))), (q36, .inl (cI, 40, .inl (fun _ => nI 0)))] := hD
  refine va_putF (D := D) (ci := 1) (v := .ref q36) (ty := .array .int) (C := R_G) (T := F_G) (N := 14) hx hb hts in_G tf_G tt_G nn_G hown hk.1 hP hD hS 0 rfl rfl 4 (by decide) (hts (.fieldLink R_G 25 R_G "left" "[I") (by decide +kernel)) (fun _ h9 => h9) rfl hin rfl (by decide +kernel) rfl rfl (Nat.le_of_ble_eq_true rfl) d_G_init_38 (fun H locs hP hD hS => ?_)
  have hP : va_P D cl_ [(h0, .inr (1, [.ref q7, .ref q15, .int (nI 0), .ref q28, .ref q36, .null, .null, .int (nI 0), .null, .null, .null, .null, .null, .null])), (q7, .inl (cI, 8, .inl (fun _ => nI 0))), (q15, .inl (cI, 16, .inl (fun _ => nI 0))), (q28, .inl (cI, 40, .inl (fun _ => nI 0))), (q36, .inl (cI, 40, .inl (fun _ => nI 0)))] H := hP
  have hD : va_D A [(h0, .inr (1, [.ref q7, .ref q15, .int (nI 0), .ref q28, .ref q36, .null, .null, .int (nI 0), .null, .null, .null, .null, .null, .null])), (q7, .inl (cI, 8, .inl (fun _ => nI 0))), (q15, .inl (cI, 16, .inl (fun _ => nI 0))), (q28, .inl (cI, 40, .inl (fun _ => nI 0))), (q36, .inl (cI, 40, .inl (fun _ => nI 0)))] := hD
  refine lv_aload_n hx hb d_G_init_41 rfl (lv_at hl 0 rfl) ?_
  refine lv_bipush (v := nI 40) hx hb d_G_init_42 (by decide) ?_
  refine ca_newi S0 hk hP hD hS hA (N := 40) (by decide) (by decide) (by decide) d_G_init_44 (fun q44 H hP hD hS => ?_)
  have hP : va_P D cl_ [(h0, .inr (1, [.ref q7, .ref q15, .int (nI 0), .ref q28, .ref q36, .null, .null, .int (nI 0), .null, .null, .null, .null, .null, .null])), (q7, .inl (cI, 8, .inl (fun _ => nI 0))), (q15, .inl (cI, 16, .inl (fun _ => nI 0))), (q28, .inl (cI, 40, .inl (fun _ => nI 0))), (q36, .inl (cI, 40, .inl (fun _ => nI 0))), (q44, .inl (cI, 40, .inl (fun _ => nI 0)))] H := hP
  have hD : va_D A [(h0, .inr (1, [.ref q7, .ref q15, .int (nI 0), .ref q28, .ref q36, .null, .null, .int (nI 0), .null, .null, .null, .null, .null, .null])), (q7, .inl (cI, 8, .inl (fun _ => nI 0))), (q15, .inl (cI, 16, .inl (fun _ => nI 0))), (q28, .inl (cI, 40, .inl (fun _ => nI 0))), (q36, .inl (cI, 40, .inl (fun _ => nI 0))), (q44, .inl (cI, 40, .inl (fun _ => nI 0)))] := hD
  refine va_putF (D := D) (ci := 1) (v := .ref q44) (ty := .array .int) (C := R_G) (T := F_G) (N := 14) hx hb hts in_G tf_G tt_G nn_G hown hk.1 hP hD hS 0 rfl rfl 5 (by decide) (hts (.fieldLink R_G 28 R_G "right" "[I") (by decide +kernel)) (fun _ h9 => h9) rfl hin rfl (by decide +kernel) rfl rfl (Nat.le_of_ble_eq_true rfl) d_G_init_46 (fun H locs hP hD hS => ?_)
  have hP : va_P D cl_ [(h0, .inr (1, [.ref q7, .ref q15, .int (nI 0), .ref q28, .ref q36, .ref q44, .null, .int (nI 0), .null, .null, .null, .null, .null, .null])), (q7, .inl (cI, 8, .inl (fun _ => nI 0))), (q15, .inl (cI, 16, .inl (fun _ => nI 0))), (q28, .inl (cI, 40, .inl (fun _ => nI 0))), (q36, .inl (cI, 40, .inl (fun _ => nI 0))), (q44, .inl (cI, 40, .inl (fun _ => nI 0)))] H := hP
  have hD : va_D A [(h0, .inr (1, [.ref q7, .ref q15, .int (nI 0), .ref q28, .ref q36, .ref q44, .null, .int (nI 0), .null, .null, .null, .null, .null, .null])), (q7, .inl (cI, 8, .inl (fun _ => nI 0))), (q15, .inl (cI, 16, .inl (fun _ => nI 0))), (q28, .inl (cI, 40, .inl (fun _ => nI 0))), (q36, .inl (cI, 40, .inl (fun _ => nI 0))), (q44, .inl (cI, 40, .inl (fun _ => nI 0)))] := hD
  refine lv_aload_n hx hb d_G_init_49 rfl (lv_at hl 0 rfl) ?_
  refine lv_bipush (v := nI 40) hx hb d_G_init_50 (by decide) ?_
  refine ca_newi S0 hk hP hD hS hA (N := 40) (by decide) (by decide) (by decide) d_G_init_52 (fun q52 H hP hD hS => ?_)
  have hP : va_P D cl_ [(h0, .inr (1, [.ref q7, .ref q15, .int (nI 0), .ref q28, .ref q36, .ref q44, .null, .int (nI 0), .null, .null, .null, .null, .null, .null])), (q7, .inl (cI, 8, .inl (fun _ => nI 0))), (q15, .inl (cI, 16, .inl (fun _ => nI 0))), (q28, .inl (cI, 40, .inl (fun _ => nI 0))), (q36, .inl (cI, 40, .inl (fun _ => nI 0))), (q44, .inl (cI, 40, .inl (fun _ => nI 0))), (q52, .inl (cI, 40, .inl (fun _ => nI 0)))] H := hP
  have hD : va_D A [(h0, .inr (1, [.ref q7, .ref q15, .int (nI 0), .ref q28, .ref q36, .ref q44, .null, .int (nI 0), .null, .null, .null, .null, .null, .null])), (q7, .inl (cI, 8, .inl (fun _ => nI 0))), (q15, .inl (cI, 16, .inl (fun _ => nI 0))), (q28, .inl (cI, 40, .inl (fun _ => nI 0))), (q36, .inl (cI, 40, .inl (fun _ => nI 0))), (q44, .inl (cI, 40, .inl (fun _ => nI 0))), (q52, .inl (cI, 40, .inl (fun _ => nI 0)))] := hD
  refine va_putF (D := D) (ci := 1) (v := .ref q52) (ty := .array .int) (C := R_G) (T := F_G) (N := 14) hx hb hts in_G tf_G tt_G nn_G hown hk.1 hP hD hS 0 rfl rfl 6 (by decide) (hts (.fieldLink R_G 31 R_G "field" "[I") (by decide +kernel)) (fun _ h9 => h9) rfl hin rfl (by decide +kernel) rfl rfl (Nat.le_of_ble_eq_true rfl) d_G_init_54 (fun H locs hP hD hS => ?_)
  have hP : va_P D cl_ [(h0, .inr (1, [.ref q7, .ref q15, .int (nI 0), .ref q28, .ref q36, .ref q44, .ref q52, .int (nI 0), .null, .null, .null, .null, .null, .null])), (q7, .inl (cI, 8, .inl (fun _ => nI 0))), (q15, .inl (cI, 16, .inl (fun _ => nI 0))), (q28, .inl (cI, 40, .inl (fun _ => nI 0))), (q36, .inl (cI, 40, .inl (fun _ => nI 0))), (q44, .inl (cI, 40, .inl (fun _ => nI 0))), (q52, .inl (cI, 40, .inl (fun _ => nI 0)))] H := hP
  have hD : va_D A [(h0, .inr (1, [.ref q7, .ref q15, .int (nI 0), .ref q28, .ref q36, .ref q44, .ref q52, .int (nI 0), .null, .null, .null, .null, .null, .null])), (q7, .inl (cI, 8, .inl (fun _ => nI 0))), (q15, .inl (cI, 16, .inl (fun _ => nI 0))), (q28, .inl (cI, 40, .inl (fun _ => nI 0))), (q36, .inl (cI, 40, .inl (fun _ => nI 0))), (q44, .inl (cI, 40, .inl (fun _ => nI 0))), (q52, .inl (cI, 40, .inl (fun _ => nI 0)))] := hD
  refine lv_aload_n hx hb d_G_init_57 rfl (lv_at hl 0 rfl) ?_
  refine lv_iconst (v := nI 0) hx hb d_G_init_58 (by decide) ?_
  refine va_put (D := D) (ci := 1) (v := .int (nI 0)) (ty := .int) (C := R_G) (T := F_G) (N := 14) hx hb hts in_G tf_G tt_G nn_G hown hk.1 hP hD hS 0 rfl rfl 7 (by decide) (hts (.fieldLink R_G 34 R_G "calls" "I") (by decide +kernel)) (fun _ h9 => h9) rfl (by decide +kernel) rfl rfl (Nat.le_of_ble_eq_true rfl) d_G_init_59 (fun H locs hP hD hS => ?_)
  have hP : va_P D cl_ [(h0, .inr (1, [.ref q7, .ref q15, .int (nI 0), .ref q28, .ref q36, .ref q44, .ref q52, .int (nI 0), .null, .null, .null, .null, .null, .null])), (q7, .inl (cI, 8, .inl (fun _ => nI 0))), (q15, .inl (cI, 16, .inl (fun _ => nI 0))), (q28, .inl (cI, 40, .inl (fun _ => nI 0))), (q36, .inl (cI, 40, .inl (fun _ => nI 0))), (q44, .inl (cI, 40, .inl (fun _ => nI 0))), (q52, .inl (cI, 40, .inl (fun _ => nI 0)))] H := hP
  have hD : va_D A [(h0, .inr (1, [.ref q7, .ref q15, .int (nI 0), .ref q28, .ref q36, .ref q44, .ref q52, .int (nI 0), .null, .null, .null, .null, .null, .null])), (q7, .inl (cI, 8, .inl (fun _ => nI 0))), (q15, .inl (cI, 16, .inl (fun _ => nI 0))), (q28, .inl (cI, 40, .inl (fun _ => nI 0))), (q36, .inl (cI, 40, .inl (fun _ => nI 0))), (q44, .inl (cI, 40, .inl (fun _ => nI 0))), (q52, .inl (cI, 40, .inl (fun _ => nI 0)))] := hD
  refine lv_aload_n hx hb d_G_init_62 rfl (lv_at hl 0 rfl) ?_
  refine lv_bipush (v := nI 8) hx hb d_G_init_63 (by decide) ?_
  refine ca_newi S0 hk hP hD hS hA (N := 8) (by decide) (by decide) (by decide) d_G_init_65 (fun q65 H hP hD hS => ?_)
  have hP : va_P D cl_ [(h0, .inr (1, [.ref q7, .ref q15, .int (nI 0), .ref q28, .ref q36, .ref q44, .ref q52, .int (nI 0), .null, .null, .null, .null, .null, .null])), (q7, .inl (cI, 8, .inl (fun _ => nI 0))), (q15, .inl (cI, 16, .inl (fun _ => nI 0))), (q28, .inl (cI, 40, .inl (fun _ => nI 0))), (q36, .inl (cI, 40, .inl (fun _ => nI 0))), (q44, .inl (cI, 40, .inl (fun _ => nI 0))), (q52, .inl (cI, 40, .inl (fun _ => nI 0))), (q65, .inl (cI, 8, .inl (fun _ => nI 0)))] H := hP
  have hD : va_D A [(h0, .inr (1, [.ref q7, .ref q15, .int (nI 0), .ref q28, .ref q36, .ref q44, .ref q52, .int (nI 0), .null, .null, .null, .null, .null, .null])), (q7, .inl (cI, 8, .inl (fun _ => nI 0))), (q15, .inl (cI, 16, .inl (fun _ => nI 0))), (q28, .inl (cI, 40, .inl (fun _ => nI 0))), (q36, .inl (cI, 40, .inl (fun _ => nI 0))), (q44, .inl (cI, 40, .inl (fun _ => nI 0))), (q52, .inl (cI, 40, .inl (fun _ => nI 0))), (q65, .inl (cI, 8, .inl (fun _ => nI 0)))] := hD
  refine va_putF (D := D) (ci := 1) (v := .ref q65) (ty := .array .int) (C := R_G) (T := F_G) (N := 14) hx hb hts in_G tf_G tt_G nn_G hown hk.1 hP hD hS 0 rfl rfl 8 (by decide) (hts (.fieldLink R_G 37 R_G "calling" "[I") (by decide +kernel)) (fun _ h9 => h9) rfl hin rfl (by decide +kernel) rfl rfl (Nat.le_of_ble_eq_true rfl) d_G_init_67 (fun H locs hP hD hS => ?_)
  have hP : va_P D cl_ [(h0, .inr (1, [.ref q7, .ref q15, .int (nI 0), .ref q28, .ref q36, .ref q44, .ref q52, .int (nI 0), .ref q65, .null, .null, .null, .null, .null])), (q7, .inl (cI, 8, .inl (fun _ => nI 0))), (q15, .inl (cI, 16, .inl (fun _ => nI 0))), (q28, .inl (cI, 40, .inl (fun _ => nI 0))), (q36, .inl (cI, 40, .inl (fun _ => nI 0))), (q44, .inl (cI, 40, .inl (fun _ => nI 0))), (q52, .inl (cI, 40, .inl (fun _ => nI 0))), (q65, .inl (cI, 8, .inl (fun _ => nI 0)))] H := hP
  have hD : va_D A [(h0, .inr (1, [.ref q7, .ref q15, .int (nI 0), .ref q28, .ref q36, .ref q44, .ref q52, .int (nI 0), .ref q65, .null, .null, .null, .null, .null])), (q7, .inl (cI, 8, .inl (fun _ => nI 0))), (q15, .inl (cI, 16, .inl (fun _ => nI 0))), (q28, .inl (cI, 40, .inl (fun _ => nI 0))), (q36, .inl (cI, 40, .inl (fun _ => nI 0))), (q44, .inl (cI, 40, .inl (fun _ => nI 0))), (q52, .inl (cI, 40, .inl (fun _ => nI 0))), (q65, .inl (cI, 8, .inl (fun _ => nI 0)))] := hD
  refine lv_aload_n hx hb d_G_init_70 rfl (lv_at hl 0 rfl) ?_
  refine lv_bipush (v := nI 8) hx hb d_G_init_71 (by decide) ?_
  refine ca_newi S0 hk hP hD hS hA (N := 8) (by decide) (by decide) (by decide) d_G_init_73 (fun q73 H hP hD hS => ?_)
  have hP : va_P D cl_ [(h0, .inr (1, [.ref q7, .ref q15, .int (nI 0), .ref q28, .ref q36, .ref q44, .ref q52, .int (nI 0), .ref q65, .null, .null, .null, .null, .null])), (q7, .inl (cI, 8, .inl (fun _ => nI 0))), (q15, .inl (cI, 16, .inl (fun _ => nI 0))), (q28, .inl (cI, 40, .inl (fun _ => nI 0))), (q36, .inl (cI, 40, .inl (fun _ => nI 0))), (q44, .inl (cI, 40, .inl (fun _ => nI 0))), (q52, .inl (cI, 40, .inl (fun _ => nI 0))), (q65, .inl (cI, 8, .inl (fun _ => nI 0))), (q73, .inl (cI, 8, .inl (fun _ => nI 0)))] H := hP
  have hD : va_D A [(h0, .inr (1, [.ref q7, .ref q15, .int (nI 0), .ref q28, .ref q36, .ref q44, .ref q52, .int (nI 0), .ref q65, .null, .null, .null, .null, .null])), (q7, .inl (cI, 8, .inl (fun _ => nI 0))), (q15, .inl (cI, 16, .inl (fun _ => nI 0))), (q28, .inl (cI, 40, .inl (fun _ => nI 0))), (q36, .inl (cI, 40, .inl (fun _ => nI 0))), (q44, .inl (cI, 40, .inl (fun _ => nI 0))), (q52, .inl (cI, 40, .inl (fun _ => nI 0))), (q65, .inl (cI, 8, .inl (fun _ => nI 0))), (q73, .inl (cI, 8, .inl (fun _ => nI 0)))] := hD
  refine va_putF (D := D) (ci := 1) (v := .ref q73) (ty := .array .int) (C := R_G) (T := F_G) (N := 14) hx hb hts in_G tf_G tt_G nn_G hown hk.1 hP hD hS 0 rfl rfl 9 (by decide) (hts (.fieldLink R_G 40 R_G "called" "[I") (by decide +kernel)) (fun _ h9 => h9) rfl hin rfl (by decide +kernel) rfl rfl (Nat.le_of_ble_eq_true rfl) d_G_init_75 (fun H locs hP hD hS => ?_)
  have hP : va_P D cl_ [(h0, .inr (1, [.ref q7, .ref q15, .int (nI 0), .ref q28, .ref q36, .ref q44, .ref q52, .int (nI 0), .ref q65, .ref q73, .null, .null, .null, .null])), (q7, .inl (cI, 8, .inl (fun _ => nI 0))), (q15, .inl (cI, 16, .inl (fun _ => nI 0))), (q28, .inl (cI, 40, .inl (fun _ => nI 0))), (q36, .inl (cI, 40, .inl (fun _ => nI 0))), (q44, .inl (cI, 40, .inl (fun _ => nI 0))), (q52, .inl (cI, 40, .inl (fun _ => nI 0))), (q65, .inl (cI, 8, .inl (fun _ => nI 0))), (q73, .inl (cI, 8, .inl (fun _ => nI 0)))] H := hP
  have hD : va_D A [(h0, .inr (1, [.ref q7, .ref q15, .int (nI 0), .ref q28, .ref q36, .ref q44, .ref q52, .int (nI 0), .ref q65, .ref q73, .null, .null, .null, .null])), (q7, .inl (cI, 8, .inl (fun _ => nI 0))), (q15, .inl (cI, 16, .inl (fun _ => nI 0))), (q28, .inl (cI, 40, .inl (fun _ => nI 0))), (q36, .inl (cI, 40, .inl (fun _ => nI 0))), (q44, .inl (cI, 40, .inl (fun _ => nI 0))), (q52, .inl (cI, 40, .inl (fun _ => nI 0))), (q65, .inl (cI, 8, .inl (fun _ => nI 0))), (q73, .inl (cI, 8, .inl (fun _ => nI 0)))] := hD
  refine lv_aload_n hx hb d_G_init_78 rfl (lv_at hl 0 rfl) ?_
  refine lv_bipush (v := nI 8) hx hb d_G_init_79 (by decide) ?_
  refine ca_newi S0 hk hP hD hS hA (N := 8) (by decide) (by decide) (by decide) d_G_init_81 (fun q81 H hP hD hS => ?_)
  have hP : va_P D cl_ [(h0, .inr (1, [.ref q7, .ref q15, .int (nI 0), .ref q28, .ref q36, .ref q44, .ref q52, .int (nI 0), .ref q65, .ref q73, .null, .null, .null, .null])), (q7, .inl (cI, 8, .inl (fun _ => nI 0))), (q15, .inl (cI, 16, .inl (fun _ => nI 0))), (q28, .inl (cI, 40, .inl (fun _ => nI 0))), (q36, .inl (cI, 40, .inl (fun _ => nI 0))), (q44, .inl (cI, 40, .inl (fun _ => nI 0))), (q52, .inl (cI, 40, .inl (fun _ => nI 0))), (q65, .inl (cI, 8, .inl (fun _ => nI 0))), (q73, .inl (cI, 8, .inl (fun _ => nI 0))), (q81, .inl (cI, 8, .inl (fun _ => nI 0)))] H := hP
  have hD : va_D A [(h0, .inr (1, [.ref q7, .ref q15, .int (nI 0), .ref q28, .ref q36, .ref q44, .ref q52, .int (nI 0), .ref q65, .ref q73, .null, .null, .null, .null])), (q7, .inl (cI, 8, .inl (fun _ => nI 0))), (q15, .inl (cI, 16, .inl (fun _ => nI 0))), (q28, .inl (cI, 40, .inl (fun _ => nI 0))), (q36, .inl (cI, 40, .inl (fun _ => nI 0))), (q44, .inl (cI, 40, .inl (fun _ => nI 0))), (q52, .inl (cI, 40, .inl (fun _ => nI 0))), (q65, .inl (cI, 8, .inl (fun _ => nI 0))), (q73, .inl (cI, 8, .inl (fun _ => nI 0))), (q81, .inl (cI, 8, .inl (fun _ => nI 0)))] := hD
  refine va_putF (D := D) (ci := 1) (v := .ref q81) (ty := .array .int) (C := R_G) (T := F_G) (N := 14) hx hb hts in_G tf_G tt_G nn_G hown hk.1 hP hD hS 0 rfl rfl 10 (by decide) (hts (.fieldLink R_G 43 R_G "passesOf" "[I") (by decide +kernel)) (fun _ h9 => h9) rfl hin rfl (by decide +kernel) rfl rfl (Nat.le_of_ble_eq_true rfl) d_G_init_83 (fun H locs hP hD hS => ?_)
  have hP : va_P D cl_ [(h0, .inr (1, [.ref q7, .ref q15, .int (nI 0), .ref q28, .ref q36, .ref q44, .ref q52, .int (nI 0), .ref q65, .ref q73, .ref q81, .null, .null, .null])), (q7, .inl (cI, 8, .inl (fun _ => nI 0))), (q15, .inl (cI, 16, .inl (fun _ => nI 0))), (q28, .inl (cI, 40, .inl (fun _ => nI 0))), (q36, .inl (cI, 40, .inl (fun _ => nI 0))), (q44, .inl (cI, 40, .inl (fun _ => nI 0))), (q52, .inl (cI, 40, .inl (fun _ => nI 0))), (q65, .inl (cI, 8, .inl (fun _ => nI 0))), (q73, .inl (cI, 8, .inl (fun _ => nI 0))), (q81, .inl (cI, 8, .inl (fun _ => nI 0)))] H := hP
  have hD : va_D A [(h0, .inr (1, [.ref q7, .ref q15, .int (nI 0), .ref q28, .ref q36, .ref q44, .ref q52, .int (nI 0), .ref q65, .ref q73, .ref q81, .null, .null, .null])), (q7, .inl (cI, 8, .inl (fun _ => nI 0))), (q15, .inl (cI, 16, .inl (fun _ => nI 0))), (q28, .inl (cI, 40, .inl (fun _ => nI 0))), (q36, .inl (cI, 40, .inl (fun _ => nI 0))), (q44, .inl (cI, 40, .inl (fun _ => nI 0))), (q52, .inl (cI, 40, .inl (fun _ => nI 0))), (q65, .inl (cI, 8, .inl (fun _ => nI 0))), (q73, .inl (cI, 8, .inl (fun _ => nI 0))), (q81, .inl (cI, 8, .inl (fun _ => nI 0)))] := hD
  refine lv_aload_n hx hb d_G_init_86 rfl (lv_at hl 0 rfl) ?_
  refine lv_bipush (v := nI 32) hx hb d_G_init_87 (by decide) ?_
  refine ca_newi S0 hk hP hD hS hA (N := 32) (by decide) (by decide) (by decide) d_G_init_89 (fun q89 H hP hD hS => ?_)
  have hP : va_P D cl_ [(h0, .inr (1, [.ref q7, .ref q15, .int (nI 0), .ref q28, .ref q36, .ref q44, .ref q52, .int (nI 0), .ref q65, .ref q73, .ref q81, .null, .null, .null])), (q7, .inl (cI, 8, .inl (fun _ => nI 0))), (q15, .inl (cI, 16, .inl (fun _ => nI 0))), (q28, .inl (cI, 40, .inl (fun _ => nI 0))), (q36, .inl (cI, 40, .inl (fun _ => nI 0))), (q44, .inl (cI, 40, .inl (fun _ => nI 0))), (q52, .inl (cI, 40, .inl (fun _ => nI 0))), (q65, .inl (cI, 8, .inl (fun _ => nI 0))), (q73, .inl (cI, 8, .inl (fun _ => nI 0))), (q81, .inl (cI, 8, .inl (fun _ => nI 0))), (q89, .inl (cI, 32, .inl (fun _ => nI 0)))] H := hP
  have hD : va_D A [(h0, .inr (1, [.ref q7, .ref q15, .int (nI 0), .ref q28, .ref q36, .ref q44, .ref q52, .int (nI 0), .ref q65, .ref q73, .ref q81, .null, .null, .null])), (q7, .inl (cI, 8, .inl (fun _ => nI 0))), (q15, .inl (cI, 16, .inl (fun _ => nI 0))), (q28, .inl (cI, 40, .inl (fun _ => nI 0))), (q36, .inl (cI, 40, .inl (fun _ => nI 0))), (q44, .inl (cI, 40, .inl (fun _ => nI 0))), (q52, .inl (cI, 40, .inl (fun _ => nI 0))), (q65, .inl (cI, 8, .inl (fun _ => nI 0))), (q73, .inl (cI, 8, .inl (fun _ => nI 0))), (q81, .inl (cI, 8, .inl (fun _ => nI 0))), (q89, .inl (cI, 32, .inl (fun _ => nI 0)))] := hD
  refine va_putF (D := D) (ci := 1) (v := .ref q89) (ty := .array .int) (C := R_G) (T := F_G) (N := 14) hx hb hts in_G tf_G tt_G nn_G hown hk.1 hP hD hS 0 rfl rfl 11 (by decide) (hts (.fieldLink R_G 46 R_G "passTo" "[I") (by decide +kernel)) (fun _ h9 => h9) rfl hin rfl (by decide +kernel) rfl rfl (Nat.le_of_ble_eq_true rfl) d_G_init_91 (fun H locs hP hD hS => ?_)
  have hP : va_P D cl_ [(h0, .inr (1, [.ref q7, .ref q15, .int (nI 0), .ref q28, .ref q36, .ref q44, .ref q52, .int (nI 0), .ref q65, .ref q73, .ref q81, .ref q89, .null, .null])), (q7, .inl (cI, 8, .inl (fun _ => nI 0))), (q15, .inl (cI, 16, .inl (fun _ => nI 0))), (q28, .inl (cI, 40, .inl (fun _ => nI 0))), (q36, .inl (cI, 40, .inl (fun _ => nI 0))), (q44, .inl (cI, 40, .inl (fun _ => nI 0))), (q52, .inl (cI, 40, .inl (fun _ => nI 0))), (q65, .inl (cI, 8, .inl (fun _ => nI 0))), (q73, .inl (cI, 8, .inl (fun _ => nI 0))), (q81, .inl (cI, 8, .inl (fun _ => nI 0))), (q89, .inl (cI, 32, .inl (fun _ => nI 0)))] H := hP
  have hD : va_D A [(h0, .inr (1, [.ref q7, .ref q15, .int (nI 0), .ref q28, .ref q36, .ref q44, .ref q52, .int (nI 0), .ref q65, .ref q73, .ref q81, .ref q89, .null, .null])), (q7, .inl (cI, 8, .inl (fun _ => nI 0))), (q15, .inl (cI, 16, .inl (fun _ => nI 0))), (q28, .inl (cI, 40, .inl (fun _ => nI 0))), (q36, .inl (cI, 40, .inl (fun _ => nI 0))), (q44, .inl (cI, 40, .inl (fun _ => nI 0))), (q52, .inl (cI, 40, .inl (fun _ => nI 0))), (q65, .inl (cI, 8, .inl (fun _ => nI 0))), (q73, .inl (cI, 8, .inl (fun _ => nI 0))), (q81, .inl (cI, 8, .inl (fun _ => nI 0))), (q89, .inl (cI, 32, .inl (fun _ => nI 0)))] := hD
  refine lv_aload_n hx hb d_G_init_94 rfl (lv_at hl 0 rfl) ?_
  refine lv_bipush (v := nI 32) hx hb d_G_init_95 (by decide) ?_
  refine ca_newi S0 hk hP hD hS hA (N := 32) (by decide) (by decide) (by decide) d_G_init_97 (fun q97 H hP hD hS => ?_)
  have hP : va_P D cl_ [(h0, .inr (1, [.ref q7, .ref q15, .int (nI 0), .ref q28, .ref q36, .ref q44, .ref q52, .int (nI 0), .ref q65, .ref q73, .ref q81, .ref q89, .null, .null])), (q7, .inl (cI, 8, .inl (fun _ => nI 0))), (q15, .inl (cI, 16, .inl (fun _ => nI 0))), (q28, .inl (cI, 40, .inl (fun _ => nI 0))), (q36, .inl (cI, 40, .inl (fun _ => nI 0))), (q44, .inl (cI, 40, .inl (fun _ => nI 0))), (q52, .inl (cI, 40, .inl (fun _ => nI 0))), (q65, .inl (cI, 8, .inl (fun _ => nI 0))), (q73, .inl (cI, 8, .inl (fun _ => nI 0))), (q81, .inl (cI, 8, .inl (fun _ => nI 0))), (q89, .inl (cI, 32, .inl (fun _ => nI 0))), (q97, .inl (cI, 32, .inl (fun _ => nI 0)))] H := hP
  have hD : va_D A [(h0, .inr (1, [.ref q7, .ref q15, .int (nI 0), .ref q28, .ref q36, .ref q44, .ref q52, .int (nI 0), .ref q65, .ref q73, .ref q81, .ref q89, .null, .null])), (q7, .inl (cI, 8, .inl (fun _ => nI 0))), (q15, .inl (cI, 16, .inl (fun _ => nI 0))), (q28, .inl (cI, 40, .inl (fun _ => nI 0))), (q36, .inl (cI, 40, .inl (fun _ => nI 0))), (q44, .inl (cI, 40, .inl (fun _ => nI 0))), (q52, .inl (cI, 40, .inl (fun _ => nI 0))), (q65, .inl (cI, 8, .inl (fun _ => nI 0))), (q73, .inl (cI, 8, .inl (fun _ => nI 0))), (q81, .inl (cI, 8, .inl (fun _ => nI 0))), (q89, .inl (cI, 32, .inl (fun _ => nI 0))), (q97, .inl (cI, 32, .inl (fun _ => nI 0)))] := hD
  refine va_putF (D := D) (ci := 1) (v := .ref q97) (ty := .array .int) (C := R_G) (T := F_G) (N := 14) hx hb hts in_G tf_G tt_G nn_G hown hk.1 hP hD hS 0 rfl rfl 12 (by decide) (hts (.fieldLink R_G 49 R_G "passFrom" "[I") (by decide +kernel)) (fun _ h9 => h9) rfl hin rfl (by decide +kernel) rfl rfl (Nat.le_of_ble_eq_true rfl) d_G_init_99 (fun H locs hP hD hS => ?_)
  have hP : va_P D cl_ [(h0, .inr (1, [.ref q7, .ref q15, .int (nI 0), .ref q28, .ref q36, .ref q44, .ref q52, .int (nI 0), .ref q65, .ref q73, .ref q81, .ref q89, .ref q97, .null])), (q7, .inl (cI, 8, .inl (fun _ => nI 0))), (q15, .inl (cI, 16, .inl (fun _ => nI 0))), (q28, .inl (cI, 40, .inl (fun _ => nI 0))), (q36, .inl (cI, 40, .inl (fun _ => nI 0))), (q44, .inl (cI, 40, .inl (fun _ => nI 0))), (q52, .inl (cI, 40, .inl (fun _ => nI 0))), (q65, .inl (cI, 8, .inl (fun _ => nI 0))), (q73, .inl (cI, 8, .inl (fun _ => nI 0))), (q81, .inl (cI, 8, .inl (fun _ => nI 0))), (q89, .inl (cI, 32, .inl (fun _ => nI 0))), (q97, .inl (cI, 32, .inl (fun _ => nI 0)))] H := hP
  have hD : va_D A [(h0, .inr (1, [.ref q7, .ref q15, .int (nI 0), .ref q28, .ref q36, .ref q44, .ref q52, .int (nI 0), .ref q65, .ref q73, .ref q81, .ref q89, .ref q97, .null])), (q7, .inl (cI, 8, .inl (fun _ => nI 0))), (q15, .inl (cI, 16, .inl (fun _ => nI 0))), (q28, .inl (cI, 40, .inl (fun _ => nI 0))), (q36, .inl (cI, 40, .inl (fun _ => nI 0))), (q44, .inl (cI, 40, .inl (fun _ => nI 0))), (q52, .inl (cI, 40, .inl (fun _ => nI 0))), (q65, .inl (cI, 8, .inl (fun _ => nI 0))), (q73, .inl (cI, 8, .inl (fun _ => nI 0))), (q81, .inl (cI, 8, .inl (fun _ => nI 0))), (q89, .inl (cI, 32, .inl (fun _ => nI 0))), (q97, .inl (cI, 32, .inl (fun _ => nI 0)))] := hD
  refine lv_aload_n hx hb d_G_init_102 rfl (lv_at hl 0 rfl) ?_
  refine lv_bipush (v := nI 32) hx hb d_G_init_103 (by decide) ?_
  refine ca_newz S0 hk hP hD hS hA (N := 32) (by decide) (by decide) (by decide) d_G_init_105 (fun q105 H hP hD hS => ?_)
  have hP : va_P D cl_ [(h0, .inr (1, [.ref q7, .ref q15, .int (nI 0), .ref q28, .ref q36, .ref q44, .ref q52, .int (nI 0), .ref q65, .ref q73, .ref q81, .ref q89, .ref q97, .null])), (q7, .inl (cI, 8, .inl (fun _ => nI 0))), (q15, .inl (cI, 16, .inl (fun _ => nI 0))), (q28, .inl (cI, 40, .inl (fun _ => nI 0))), (q36, .inl (cI, 40, .inl (fun _ => nI 0))), (q44, .inl (cI, 40, .inl (fun _ => nI 0))), (q52, .inl (cI, 40, .inl (fun _ => nI 0))), (q65, .inl (cI, 8, .inl (fun _ => nI 0))), (q73, .inl (cI, 8, .inl (fun _ => nI 0))), (q81, .inl (cI, 8, .inl (fun _ => nI 0))), (q89, .inl (cI, 32, .inl (fun _ => nI 0))), (q97, .inl (cI, 32, .inl (fun _ => nI 0))), (q105, .inl (cZ, 32, .inl (fun _ => nI 0)))] H := hP
  have hD : va_D A [(h0, .inr (1, [.ref q7, .ref q15, .int (nI 0), .ref q28, .ref q36, .ref q44, .ref q52, .int (nI 0), .ref q65, .ref q73, .ref q81, .ref q89, .ref q97, .null])), (q7, .inl (cI, 8, .inl (fun _ => nI 0))), (q15, .inl (cI, 16, .inl (fun _ => nI 0))), (q28, .inl (cI, 40, .inl (fun _ => nI 0))), (q36, .inl (cI, 40, .inl (fun _ => nI 0))), (q44, .inl (cI, 40, .inl (fun _ => nI 0))), (q52, .inl (cI, 40, .inl (fun _ => nI 0))), (q65, .inl (cI, 8, .inl (fun _ => nI 0))), (q73, .inl (cI, 8, .inl (fun _ => nI 0))), (q81, .inl (cI, 8, .inl (fun _ => nI 0))), (q89, .inl (cI, 32, .inl (fun _ => nI 0))), (q97, .inl (cI, 32, .inl (fun _ => nI 0))), (q105, .inl (cZ, 32, .inl (fun _ => nI 0)))] := hD
  refine va_putF (D := D) (ci := 1) (v := .ref q105) (ty := .array .boolean) (C := R_G) (T := F_G) (N := 14) hx hb hts in_G tf_G tt_G nn_G hown hk.1 hP hD hS 0 rfl rfl 13 (by decide) (hts (.fieldLink R_G 52 R_G "passBack" "[Z") (by decide +kernel)) (fun _ h9 => h9) rfl hin rfl (by decide +kernel) rfl rfl (Nat.le_of_ble_eq_true rfl) d_G_init_107 (fun H locs hP hD hS => ?_)
  have hP : va_P D cl_ [(h0, .inr (1, [.ref q7, .ref q15, .int (nI 0), .ref q28, .ref q36, .ref q44, .ref q52, .int (nI 0), .ref q65, .ref q73, .ref q81, .ref q89, .ref q97, .ref q105])), (q7, .inl (cI, 8, .inl (fun _ => nI 0))), (q15, .inl (cI, 16, .inl (fun _ => nI 0))), (q28, .inl (cI, 40, .inl (fun _ => nI 0))), (q36, .inl (cI, 40, .inl (fun _ => nI 0))), (q44, .inl (cI, 40, .inl (fun _ => nI 0))), (q52, .inl (cI, 40, .inl (fun _ => nI 0))), (q65, .inl (cI, 8, .inl (fun _ => nI 0))), (q73, .inl (cI, 8, .inl (fun _ => nI 0))), (q81, .inl (cI, 8, .inl (fun _ => nI 0))), (q89, .inl (cI, 32, .inl (fun _ => nI 0))), (q97, .inl (cI, 32, .inl (fun _ => nI 0))), (q105, .inl (cZ, 32, .inl (fun _ => nI 0)))] H := hP
  have hD : va_D A [(h0, .inr (1, [.ref q7, .ref q15, .int (nI 0), .ref q28, .ref q36, .ref q44, .ref q52, .int (nI 0), .ref q65, .ref q73, .ref q81, .ref q89, .ref q97, .ref q105])), (q7, .inl (cI, 8, .inl (fun _ => nI 0))), (q15, .inl (cI, 16, .inl (fun _ => nI 0))), (q28, .inl (cI, 40, .inl (fun _ => nI 0))), (q36, .inl (cI, 40, .inl (fun _ => nI 0))), (q44, .inl (cI, 40, .inl (fun _ => nI 0))), (q52, .inl (cI, 40, .inl (fun _ => nI 0))), (q65, .inl (cI, 8, .inl (fun _ => nI 0))), (q73, .inl (cI, 8, .inl (fun _ => nI 0))), (q81, .inl (cI, 8, .inl (fun _ => nI 0))), (q89, .inl (cI, 32, .inl (fun _ => nI 0))), (q97, .inl (cI, 32, .inl (fun _ => nI 0))), (q105, .inl (cZ, 32, .inl (fun _ => nI 0)))] := hD
  refine lv_aload_n hx hb d_G_init_110 rfl (lv_at hl 0 rfl) ?_
  refine va_get (D := D) (ci := 1) (v := .ref q15) (C := R_G) (T := F_G) (N := 14) hx hb hts in_G hown hk.1 hP 0 rfl rfl 1 (by decide) (hts (.fieldLink R_G 15 R_G "acceptedBy" "[I") (by decide +kernel)) (fun _ h9 => h9) rfl d_G_init_111 ?_
  refine lv_bipush (v := nI 15) hx hb d_G_init_114 (by decide) ?_
  refine ca_stat S0 hk (v := .int (nI 15)) (wf := fun _ => [(q15, .inl (cI, 16, .inl (fun _ => nI 15)))]) (wr := [(h0, .inr (1, [.ref q7, .ref q15, .int (nI 0), .ref q28, .ref q36, .ref q44, .ref q52, .int (nI 0), .ref q65, .ref q73, .ref q81, .ref q89, .ref q97, .ref q105])), (q7, .inl (cI, 8, .inl (fun _ => nI 0))), (q28, .inl (cI, 40, .inl (fun _ => nI 0))), (q36, .inl (cI, 40, .inl (fun _ => nI 0))), (q44, .inl (cI, 40, .inl (fun _ => nI 0))), (q52, .inl (cI, 40, .inl (fun _ => nI 0))), (q65, .inl (cI, 8, .inl (fun _ => nI 0))), (q73, .inl (cI, 8, .inl (fun _ => nI 0))), (q81, .inl (cI, 8, .inl (fun _ => nI 0))), (q89, .inl (cI, 32, .inl (fun _ => nI 0))), (q97, .inl (cI, 32, .inl (fun _ => nI 0))), (q105, .inl (cZ, 32, .inl (fun _ => nI 0)))]) hP hD hS hA 2 [0, 1, 3, 4, 5, 6, 7, 8, 9, 10, 11, 12] rfl rfl (by decide) (by decide) (cc_fill l D cI cZ q15 16 (by decide) (nI 15) _) (by decide +kernel) (by decide +kernel) (by decide +kernel) (by decide +kernel) (by decide +kernel) (by decide) hl.1 (Nat.le_of_ble_eq_true rfl) d_G_init_116 ⟨by decide, by decide⟩ (fun _ H locs hP hD hS => ?_)
  have hP : va_P D cl_ [(h0, .inr (1, [.ref q7, .ref q15, .int (nI 0), .ref q28, .ref q36, .ref q44, .ref q52, .int (nI 0), .ref q65, .ref q73, .ref q81, .ref q89, .ref q97, .ref q105])), (q7, .inl (cI, 8, .inl (fun _ => nI 0))), (q28, .inl (cI, 40, .inl (fun _ => nI 0))), (q36, .inl (cI, 40, .inl (fun _ => nI 0))), (q44, .inl (cI, 40, .inl (fun _ => nI 0))), (q52, .inl (cI, 40, .inl (fun _ => nI 0))), (q65, .inl (cI, 8, .inl (fun _ => nI 0))), (q73, .inl (cI, 8, .inl (fun _ => nI 0))), (q81, .inl (cI, 8, .inl (fun _ => nI 0))), (q89, .inl (cI, 32, .inl (fun _ => nI 0))), (q97, .inl (cI, 32, .inl (fun _ => nI 0))), (q105, .inl (cZ, 32, .inl (fun _ => nI 0))), (q15, .inl (cI, 16, .inl (fun _ => nI 15)))] H := hP
  have hD : va_D A [(h0, .inr (1, [.ref q7, .ref q15, .int (nI 0), .ref q28, .ref q36, .ref q44, .ref q52, .int (nI 0), .ref q65, .ref q73, .ref q81, .ref q89, .ref q97, .ref q105])), (q7, .inl (cI, 8, .inl (fun _ => nI 0))), (q28, .inl (cI, 40, .inl (fun _ => nI 0))), (q36, .inl (cI, 40, .inl (fun _ => nI 0))), (q44, .inl (cI, 40, .inl (fun _ => nI 0))), (q52, .inl (cI, 40, .inl (fun _ => nI 0))), (q65, .inl (cI, 8, .inl (fun _ => nI 0))), (q73, .inl (cI, 8, .inl (fun _ => nI 0))), (q81, .inl (cI, 8, .inl (fun _ => nI 0))), (q89, .inl (cI, 32, .inl (fun _ => nI 0))), (q97, .inl (cI, 32, .inl (fun _ => nI 0))), (q105, .inl (cZ, 32, .inl (fun _ => nI 0))), (q15, .inl (cI, 16, .inl (fun _ => nI 15)))] := hD
  have hP9 := hP.sub (ws' := [(h0, .inr (1, [.ref q7, .ref q15, .int (nI 0), .ref q28, .ref q36, .ref q44, .ref q52, .int (nI 0), .ref q65, .ref q73, .ref q81, .ref q89, .ref q97, .ref q105])), (q7, .inl (cI, 8, .inl (fun _ => nI 0))), (q15, .inl (cI, 16, .inl (fun _ => nI 15))), (q28, .inl (cI, 40, .inl (fun _ => nI 0))), (q36, .inl (cI, 40, .inl (fun _ => nI 0))), (q44, .inl (cI, 40, .inl (fun _ => nI 0))), (q52, .inl (cI, 40, .inl (fun _ => nI 0))), (q65, .inl (cI, 8, .inl (fun _ => nI 0))), (q73, .inl (cI, 8, .inl (fun _ => nI 0))), (q81, .inl (cI, 8, .inl (fun _ => nI 0))), (q89, .inl (cI, 32, .inl (fun _ => nI 0))), (q97, .inl (cI, 32, .inl (fun _ => nI 0))), (q105, .inl (cZ, 32, .inl (fun _ => nI 0)))]) [0, 1, 12, 2, 3, 4, 5, 6, 7, 8, 9, 10, 11] rfl
  have hD9 := hD.sub (ws' := [(h0, .inr (1, [.ref q7, .ref q15, .int (nI 0), .ref q28, .ref q36, .ref q44, .ref q52, .int (nI 0), .ref q65, .ref q73, .ref q81, .ref q89, .ref q97, .ref q105])), (q7, .inl (cI, 8, .inl (fun _ => nI 0))), (q15, .inl (cI, 16, .inl (fun _ => nI 15))), (q28, .inl (cI, 40, .inl (fun _ => nI 0))), (q36, .inl (cI, 40, .inl (fun _ => nI 0))), (q44, .inl (cI, 40, .inl (fun _ => nI 0))), (q52, .inl (cI, 40, .inl (fun _ => nI 0))), (q65, .inl (cI, 8, .inl (fun _ => nI 0))), (q73, .inl (cI, 8, .inl (fun _ => nI 0))), (q81, .inl (cI, 8, .inl (fun _ => nI 0))), (q89, .inl (cI, 32, .inl (fun _ => nI 0))), (q97, .inl (cI, 32, .inl (fun _ => nI 0))), (q105, .inl (cZ, 32, .inl (fun _ => nI 0)))]) [0, 1, 12, 2, 3, 4, 5, 6, 7, 8, 9, 10, 11] (by decide) rfl
  rw [← hAe] at hD9
  refine W.widen (k := 12) (n := 304) (by decide) (by decide) ?_
  exact W.vret hx hb hr (fun t ht hW => ⟨⟨fun k => [q7, q15, q28, q36, q44, q52, q65, q73, q81, q89, q97, q105].getD k 0, rfl, trivial, by rw [ht]; exact hP9, hD9⟩, by rw [hAe]; exact hS.F ht⟩) hS.2.2 d_G_init_119 hlocks
set_option maxRecDepth 100000 in
set_option maxHeartbeats 4000000 in
theorem c_N_init (l : Launch) (D : va_G) (cI cZ : ClassId) (h0 : Nat) : cc_ l y_N_init (wz_ y_N_init b_N_init 1 none) 1 30 4 20 D cI cZ [.ref h0] [(h0, .inr (2, [.null, .null, .int (nI 0), .null, .null]))] (fun f => [(h0, .inr (2, [.ref (f 0), .ref (f 1), .int (nI 0), .ref (f 2), .ref (f 3)])), (f 0, .inl (cI, 4, .inl (fun _ => nI 1))), (f 1, .inl (cI, 8, .inl (fun _ => nI 0))), (f 2, .inl (cI, 4, .inl (fun _ => nI 0))), (f 3, .inl (cI, 4, .inl (fun _ => nI 0)))]) := by
  intro sz
  refine Met.ofW (cc := b_N_init) (maxL := 1) (ret := none) (by decide) rfl ?_
  intro p e s m args below meth c s₁ B hml hv
  obtain ⟨rfl, hsz, hP, hk, hD0⟩ := hv
  have hx := B.exec
  have hb := B.bytes
  have hr := B.returns
  have hts0 := atoms_spec (ws := wz_ y_N_init b_N_init 1 none) B.pre
  have hts : ∀ w ∈ ak_, w.before #[Value.ref h0] s = true := fun w hw => hts0 w (List.mem_cons_of_mem _ hw)
  have hown : s.vm.findClass R_N = some m.cls := findClass_of_methodNamed B.named
  have hlocks := B.notSynchronized
  have hin : meth.name = "<init>" := (name_of_methodNamed B.named B.method).1
  have S0 : CallFix p m c b_N_init 1 s #[Value.ref h0] ak_ R_N := ⟨hx, hb, hml, hown, hts⟩
  subst hsz
  have hD := hD0.self (sz := s.heap.size)
  generalize hAe : va_A [(h0, .inr (2, [.null, .null, .int (nI 0), .null, .null]))] s.heap.size = A at hD ⊢
  have hA : ∀ q : Nat, s.heap.size ≤ q → A q := fun q h => by rw [← hAe]; exact Or.inr h
  have hS : va_S A s.heap s.heap [] := va_S.rf
  have hl := lv_entry ([.ref h0]) (n := 1) (Nat.le_of_ble_eq_true rfl)
  rw [lg_entry_eq]
  generalize (lg_sl ([.ref h0]) ++ List.replicate (1 - (lg_sl ([.ref h0])).length) Slot.unset).toArray = ls at hl ⊢
  have hl : lv_has ls 1 [(0, .ref h0)] := hl
  refine lv_aload_n hx hb d_N_init_0 rfl (lv_at hl 0 rfl) ?_
  refine ca_obj S0 hl.1 (by decide +kernel) (by decide) (Nat.le_of_ble_eq_true rfl) d_N_init_1 ?_
  refine lv_aload_n hx hb d_N_init_4 rfl (lv_at hl 0 rfl) ?_
  refine lv_iconst (v := nI 4) hx hb d_N_init_5 (by decide) ?_
  refine ca_newi S0 hk hP hD hS hA (N := 4) (by decide) (by decide) (by decide) d_N_init_6 (fun q6 H hP hD hS => ?_)
  have hP : va_P D cl_ [(h0, .inr (2, [.null, .null, .int (nI 0), .null, .null])), (q6, .inl (cI, 4, .inl (fun _ => nI 0)))] H := hP
  have hD : va_D A [(h0, .inr (2, [.null, .null, .int (nI 0), .null, .null])), (q6, .inl (cI, 4, .inl (fun _ => nI 0)))] := hD
  refine va_putF (D := D) (ci := 2) (v := .ref q6) (ty := .array .int) (C := R_N) (T := F_N) (N := 5) hx hb hts in_N tf_N tt_N nn_N hown hk.1 hP hD hS 0 rfl rfl 0 (by decide) (hts (.fieldLink R_N 9 R_N "countOf" "[I") (by decide +kernel)) (fun _ h9 => h9) rfl hin rfl (by decide +kernel) rfl rfl (Nat.le_of_ble_eq_true rfl) d_N_init_8 (fun H locs hP hD hS => ?_)
  have hP : va_P D cl_ [(h0, .inr (2, [.ref q6, .null, .int (nI 0), .null, .null])), (q6, .inl (cI, 4, .inl (fun _ => nI 0)))] H := hP
  have hD : va_D A [(h0, .inr (2, [.ref q6, .null, .int (nI 0), .null, .null])), (q6, .inl (cI, 4, .inl (fun _ => nI 0)))] := hD
  refine lv_aload_n hx hb d_N_init_11 rfl (lv_at hl 0 rfl) ?_
  refine lv_bipush (v := nI 8) hx hb d_N_init_12 (by decide) ?_
  refine ca_newi S0 hk hP hD hS hA (N := 8) (by decide) (by decide) (by decide) d_N_init_14 (fun q14 H hP hD hS => ?_)
  have hP : va_P D cl_ [(h0, .inr (2, [.ref q6, .null, .int (nI 0), .null, .null])), (q6, .inl (cI, 4, .inl (fun _ => nI 0))), (q14, .inl (cI, 8, .inl (fun _ => nI 0)))] H := hP
  have hD : va_D A [(h0, .inr (2, [.ref q6, .null, .int (nI 0), .null, .null])), (q6, .inl (cI, 4, .inl (fun _ => nI 0))), (q14, .inl (cI, 8, .inl (fun _ => nI 0)))] := hD
  refine va_putF (D := D) (ci := 2) (v := .ref q14) (ty := .array .int) (C := R_N) (T := F_N) (N := 5) hx hb hts in_N tf_N tt_N nn_N hown hk.1 hP hD hS 0 rfl rfl 1 (by decide) (hts (.fieldLink R_N 15 R_N "firstBy" "[I") (by decide +kernel)) (fun _ h9 => h9) rfl hin rfl (by decide +kernel) rfl rfl (Nat.le_of_ble_eq_true rfl) d_N_init_16 (fun H locs hP hD hS => ?_)
  have hP : va_P D cl_ [(h0, .inr (2, [.ref q6, .ref q14, .int (nI 0), .null, .null])), (q6, .inl (cI, 4, .inl (fun _ => nI 0))), (q14, .inl (cI, 8, .inl (fun _ => nI 0)))] H := hP
  have hD : va_D A [(h0, .inr (2, [.ref q6, .ref q14, .int (nI 0), .null, .null])), (q6, .inl (cI, 4, .inl (fun _ => nI 0))), (q14, .inl (cI, 8, .inl (fun _ => nI 0)))] := hD
  refine lv_aload_n hx hb d_N_init_19 rfl (lv_at hl 0 rfl) ?_
  refine lv_iconst (v := nI 0) hx hb d_N_init_20 (by decide) ?_
  refine va_put (D := D) (ci := 2) (v := .int (nI 0)) (ty := .int) (C := R_N) (T := F_N) (N := 5) hx hb hts in_N tf_N tt_N nn_N hown hk.1 hP hD hS 0 rfl rfl 2 (by decide) (hts (.fieldLink R_N 18 R_N "calls" "I") (by decide +kernel)) (fun _ h9 => h9) rfl (by decide +kernel) rfl rfl (Nat.le_of_ble_eq_true rfl) d_N_init_21 (fun H locs hP hD hS => ?_)
  have hP : va_P D cl_ [(h0, .inr (2, [.ref q6, .ref q14, .int (nI 0), .null, .null])), (q6, .inl (cI, 4, .inl (fun _ => nI 0))), (q14, .inl (cI, 8, .inl (fun _ => nI 0)))] H := hP
  have hD : va_D A [(h0, .inr (2, [.ref q6, .ref q14, .int (nI 0), .null, .null])), (q6, .inl (cI, 4, .inl (fun _ => nI 0))), (q14, .inl (cI, 8, .inl (fun _ => nI 0)))] := hD
  refine lv_aload_n hx hb d_N_init_24 rfl (lv_at hl 0 rfl) ?_
  refine lv_iconst (v := nI 4) hx hb d_N_init_25 (by decide) ?_
  refine ca_newi S0 hk hP hD hS hA (N := 4) (by decide) (by decide) (by decide) d_N_init_26 (fun q26 H hP hD hS => ?_)
  have hP : va_P D cl_ [(h0, .inr (2, [.ref q6, .ref q14, .int (nI 0), .null, .null])), (q6, .inl (cI, 4, .inl (fun _ => nI 0))), (q14, .inl (cI, 8, .inl (fun _ => nI 0))), (q26, .inl (cI, 4, .inl (fun _ => nI 0)))] H := hP
  have hD : va_D A [(h0, .inr (2, [.ref q6, .ref q14, .int (nI 0), .null, .null])), (q6, .inl (cI, 4, .inl (fun _ => nI 0))), (q14, .inl (cI, 8, .inl (fun _ => nI 0))), (q26, .inl (cI, 4, .inl (fun _ => nI 0)))] := hD
  refine va_putF (D := D) (ci := 2) (v := .ref q26) (ty := .array .int) (C := R_N) (T := F_N) (N := 5) hx hb hts in_N tf_N tt_N nn_N hown hk.1 hP hD hS 0 rfl rfl 3 (by decide) (hts (.fieldLink R_N 22 R_N "reachedFrom" "[I") (by decide +kernel)) (fun _ h9 => h9) rfl hin rfl (by decide +kernel) rfl rfl (Nat.le_of_ble_eq_true rfl) d_N_init_28 (fun H locs hP hD hS => ?_)
  have hP : va_P D cl_ [(h0, .inr (2, [.ref q6, .ref q14, .int (nI 0), .ref q26, .null])), (q6, .inl (cI, 4, .inl (fun _ => nI 0))), (q14, .inl (cI, 8, .inl (fun _ => nI 0))), (q26, .inl (cI, 4, .inl (fun _ => nI 0)))] H := hP
  have hD : va_D A [(h0, .inr (2, [.ref q6, .ref q14, .int (nI 0), .ref q26, .null])), (q6, .inl (cI, 4, .inl (fun _ => nI 0))), (q14, .inl (cI, 8, .inl (fun _ => nI 0))), (q26, .inl (cI, 4, .inl (fun _ => nI 0)))] := hD
  refine lv_aload_n hx hb d_N_init_31 rfl (lv_at hl 0 rfl) ?_
  refine lv_iconst (v := nI 4) hx hb d_N_init_32 (by decide) ?_
  refine ca_newi S0 hk hP hD hS hA (N := 4) (by decide) (by decide) (by decide) d_N_init_33 (fun q33 H hP hD hS => ?_)
  have hP : va_P D cl_ [(h0, .inr (2, [.ref q6, .ref q14, .int (nI 0), .ref q26, .null])), (q6, .inl (cI, 4, .inl (fun _ => nI 0))), (q14, .inl (cI, 8, .inl (fun _ => nI 0))), (q26, .inl (cI, 4, .inl (fun _ => nI 0))), (q33, .inl (cI, 4, .inl (fun _ => nI 0)))] H := hP
  have hD : va_D A [(h0, .inr (2, [.ref q6, .ref q14, .int (nI 0), .ref q26, .null])), (q6, .inl (cI, 4, .inl (fun _ => nI 0))), (q14, .inl (cI, 8, .inl (fun _ => nI 0))), (q26, .inl (cI, 4, .inl (fun _ => nI 0))), (q33, .inl (cI, 4, .inl (fun _ => nI 0)))] := hD
  refine va_putF (D := D) (ci := 2) (v := .ref q33) (ty := .array .int) (C := R_N) (T := F_N) (N := 5) hx hb hts in_N tf_N tt_N nn_N hown hk.1 hP hD hS 0 rfl rfl 4 (by decide) (hts (.fieldLink R_N 25 R_N "reckoned" "[I") (by decide +kernel)) (fun _ h9 => h9) rfl hin rfl (by decide +kernel) rfl rfl (Nat.le_of_ble_eq_true rfl) d_N_init_35 (fun H locs hP hD hS => ?_)
  have hP : va_P D cl_ [(h0, .inr (2, [.ref q6, .ref q14, .int (nI 0), .ref q26, .ref q33])), (q6, .inl (cI, 4, .inl (fun _ => nI 0))), (q14, .inl (cI, 8, .inl (fun _ => nI 0))), (q26, .inl (cI, 4, .inl (fun _ => nI 0))), (q33, .inl (cI, 4, .inl (fun _ => nI 0)))] H := hP
  have hD : va_D A [(h0, .inr (2, [.ref q6, .ref q14, .int (nI 0), .ref q26, .ref q33])), (q6, .inl (cI, 4, .inl (fun _ => nI 0))), (q14, .inl (cI, 8, .inl (fun _ => nI 0))), (q26, .inl (cI, 4, .inl (fun _ => nI 0))), (q33, .inl (cI, 4, .inl (fun _ => nI 0)))] := hD
  refine lv_aload_n hx hb d_N_init_38 rfl (lv_at hl 0 rfl) ?_
  refine va_get (D := D) (ci := 2) (v := .ref q6) (C := R_N) (T := F_N) (N := 5) hx hb hts in_N hown hk.1 hP 0 rfl rfl 0 (by decide) (hts (.fieldLink R_N 9 R_N "countOf" "[I") (by decide +kernel)) (fun _ h9 => h9) rfl d_N_init_39 ?_
  refine lv_iconst (v := nI 1) hx hb d_N_init_42 (by decide) ?_
  refine ca_stat S0 hk (v := .int (nI 1)) (wf := fun _ => [(q6, .inl (cI, 4, .inl (fun _ => nI 1)))]) (wr := [(h0, .inr (2, [.ref q6, .ref q14, .int (nI 0), .ref q26, .ref q33])), (q14, .inl (cI, 8, .inl (fun _ => nI 0))), (q26, .inl (cI, 4, .inl (fun _ => nI 0))), (q33, .inl (cI, 4, .inl (fun _ => nI 0)))]) hP hD hS hA 1 [0, 2, 3, 4] rfl rfl (by decide) (by decide) (cc_fill l D cI cZ q6 4 (by decide) (nI 1) _) (by decide +kernel) (by decide +kernel) (by decide +kernel) (by decide +kernel) (by decide +kernel) (by decide) hl.1 (Nat.le_of_ble_eq_true rfl) d_N_init_43 ⟨by decide, by decide⟩ (fun _ H locs hP hD hS => ?_)
  have hP : va_P D cl_ [(h0, .inr (2, [.ref q6, .ref q14, .int (nI 0), .ref q26, .ref q33])), (q14, .inl (cI, 8, .inl (fun _ => nI 0))), (q26, .inl (cI, 4, .inl (fun _ => nI 0))), (q33, .inl (cI, 4, .inl (fun _ => nI 0))), (q6, .inl (cI, 4, .inl (fun _ => nI 1)))] H := hP
  have hD : va_D A [(h0, .inr (2, [.ref q6, .ref q14, .int (nI 0), .ref q26, .ref q33])), (q14, .inl (cI, 8, .inl (fun _ => nI 0))), (q26, .inl (cI, 4, .inl (fun _ => nI 0))), (q33, .inl (cI, 4, .inl (fun _ => nI 0))), (q6, .inl (cI, 4, .inl (fun _ => nI 1)))] := hD
  have hP9 := hP.sub (ws' := [(h0, .inr (2, [.ref q6, .ref q14, .int (nI 0), .ref q26, .ref q33])), (q6, .inl (cI, 4, .inl (fun _ => nI 1))), (q14, .inl (cI, 8, .inl (fun _ => nI 0))), (q26, .inl (cI, 4, .inl (fun _ => nI 0))), (q33, .inl (cI, 4, .inl (fun _ => nI 0)))]) [0, 4, 1, 2, 3] rfl
  have hD9 := hD.sub (ws' := [(h0, .inr (2, [.ref q6, .ref q14, .int (nI 0), .ref q26, .ref q33])), (q6, .inl (cI, 4, .inl (fun _ => nI 1))), (q14, .inl (cI, 8, .inl (fun _ => nI 0))), (q26, .inl (cI, 4, .inl (fun _ => nI 0))), (q33, .inl (cI, 4, .inl (fun _ => nI 0)))]) [0, 4, 1, 2, 3] (by decide) rfl
  rw [← hAe] at hD9
  refine W.widen (k := 4) (n := 20) (by decide) (by decide) ?_
  exact W.vret hx hb hr (fun t ht hW => ⟨⟨fun k => [q6, q14, q26, q33].getD k 0, rfl, trivial, by rw [ht]; exact hP9, hD9⟩, by rw [hAe]; exact hS.F ht⟩) hS.2.2 d_N_init_46 hlocks
set_option maxRecDepth 100000 in
set_option maxHeartbeats 4000000 in
theorem c_T_init (l : Launch) (D : va_G) (cI cZ : ClassId) (h0 : Nat) : cc_ l y_T_init (wz_ y_T_init b_T_init 1 none) 1 30 3 160 D cI cZ [.ref h0] [(h0, .inr (3, [.null, .null, .null, .int (nI 0)]))] (fun f => [(h0, .inr (3, [.ref (f 0), .ref (f 1), .ref (f 2), .int (nI 0)])), (f 0, .inl (cI, 128, .inl (fun _ => nI 0))), (f 1, .inl (cI, 16, .inl (fun _ => nI 0))), (f 2, .inl (cI, 16, .inl (fun _ => nI 0)))]) := by
  intro sz
  refine Met.ofW (cc := b_T_init) (maxL := 1) (ret := none) (by decide) rfl ?_
  intro p e s m args below meth c s₁ B hml hv
  obtain ⟨rfl, hsz, hP, hk, hD0⟩ := hv
  have hx := B.exec
  have hb := B.bytes
  have hr := B.returns
  have hts0 := atoms_spec (ws := wz_ y_T_init b_T_init 1 none) B.pre
  have hts : ∀ w ∈ ak_, w.before #[Value.ref h0] s = true := fun w hw => hts0 w (List.mem_cons_of_mem _ hw)
  have hown : s.vm.findClass R_T = some m.cls := findClass_of_methodNamed B.named
  have hlocks := B.notSynchronized
  have hin : meth.name = "<init>" := (name_of_methodNamed B.named B.method).1
  have S0 : CallFix p m c b_T_init 1 s #[Value.ref h0] ak_ R_T := ⟨hx, hb, hml, hown, hts⟩
  subst hsz
  have hD := hD0.self (sz := s.heap.size)
  generalize hAe : va_A [(h0, .inr (3, [.null, .null, .null, .int (nI 0)]))] s.heap.size = A at hD ⊢
  have hA : ∀ q : Nat, s.heap.size ≤ q → A q := fun q h => by rw [← hAe]; exact Or.inr h
  have hS : va_S A s.heap s.heap [] := va_S.rf
  have hl := lv_entry ([.ref h0]) (n := 1) (Nat.le_of_ble_eq_true rfl)
  rw [lg_entry_eq]
  generalize (lg_sl ([.ref h0]) ++ List.replicate (1 - (lg_sl ([.ref h0])).length) Slot.unset).toArray = ls at hl ⊢
  have hl : lv_has ls 1 [(0, .ref h0)] := hl
  refine lv_aload_n hx hb d_T_init_0 rfl (lv_at hl 0 rfl) ?_
  refine ca_obj S0 hl.1 (by decide +kernel) (by decide) (Nat.le_of_ble_eq_true rfl) d_T_init_1 ?_
  refine lv_aload_n hx hb d_T_init_4 rfl (lv_at hl 0 rfl) ?_
  refine lv_sipush (v := nI 128) hx hb d_T_init_5 (by decide) ?_
  refine ca_newi S0 hk hP hD hS hA (N := 128) (by decide) (by decide) (by decide) d_T_init_8 (fun q8 H hP hD hS => ?_)
  have hP : va_P D cl_ [(h0, .inr (3, [.null, .null, .null, .int (nI 0)])), (q8, .inl (cI, 128, .inl (fun _ => nI 0)))] H := hP
  have hD : va_D A [(h0, .inr (3, [.null, .null, .null, .int (nI 0)])), (q8, .inl (cI, 128, .inl (fun _ => nI 0)))] := hD
  refine va_putF (D := D) (ci := 3) (v := .ref q8) (ty := .array .int) (C := R_T) (T := F_T) (N := 4) hx hb hts in_T tf_T tt_T nn_T hown hk.1 hP hD hS 0 rfl rfl 0 (by decide) (hts (.fieldLink R_T 11 R_T "pointed" "[I") (by decide +kernel)) (fun _ h9 => h9) rfl hin rfl (by decide +kernel) rfl rfl (Nat.le_of_ble_eq_true rfl) d_T_init_10 (fun H locs hP hD hS => ?_)
  have hP : va_P D cl_ [(h0, .inr (3, [.ref q8, .null, .null, .int (nI 0)])), (q8, .inl (cI, 128, .inl (fun _ => nI 0)))] H := hP
  have hD : va_D A [(h0, .inr (3, [.ref q8, .null, .null, .int (nI 0)])), (q8, .inl (cI, 128, .inl (fun _ => nI 0)))] := hD
  refine lv_aload_n hx hb d_T_init_13 rfl (lv_at hl 0 rfl) ?_
  refine lv_bipush (v := nI 16) hx hb d_T_init_14 (by decide) ?_
  refine ca_newi S0 hk hP hD hS hA (N := 16) (by decide) (by decide) (by decide) d_T_init_16 (fun q16 H hP hD hS => ?_)
  have hP : va_P D cl_ [(h0, .inr (3, [.ref q8, .null, .null, .int (nI 0)])), (q8, .inl (cI, 128, .inl (fun _ => nI 0))), (q16, .inl (cI, 16, .inl (fun _ => nI 0)))] H := hP
  have hD : va_D A [(h0, .inr (3, [.ref q8, .null, .null, .int (nI 0)])), (q8, .inl (cI, 128, .inl (fun _ => nI 0))), (q16, .inl (cI, 16, .inl (fun _ => nI 0)))] := hD
  refine va_putF (D := D) (ci := 3) (v := .ref q16) (ty := .array .int) (C := R_T) (T := F_T) (N := 4) hx hb hts in_T tf_T tt_T nn_T hown hk.1 hP hD hS 0 rfl rfl 1 (by decide) (hts (.fieldLink R_T 15 R_T "held" "[I") (by decide +kernel)) (fun _ h9 => h9) rfl hin rfl (by decide +kernel) rfl rfl (Nat.le_of_ble_eq_true rfl) d_T_init_18 (fun H locs hP hD hS => ?_)
  have hP : va_P D cl_ [(h0, .inr (3, [.ref q8, .ref q16, .null, .int (nI 0)])), (q8, .inl (cI, 128, .inl (fun _ => nI 0))), (q16, .inl (cI, 16, .inl (fun _ => nI 0)))] H := hP
  have hD : va_D A [(h0, .inr (3, [.ref q8, .ref q16, .null, .int (nI 0)])), (q8, .inl (cI, 128, .inl (fun _ => nI 0))), (q16, .inl (cI, 16, .inl (fun _ => nI 0)))] := hD
  refine lv_aload_n hx hb d_T_init_21 rfl (lv_at hl 0 rfl) ?_
  refine lv_bipush (v := nI 16) hx hb d_T_init_22 (by decide) ?_
  refine ca_newi S0 hk hP hD hS hA (N := 16) (by decide) (by decide) (by decide) d_T_init_24 (fun q24 H hP hD hS => ?_)
  have hP : va_P D cl_ [(h0, .inr (3, [.ref q8, .ref q16, .null, .int (nI 0)])), (q8, .inl (cI, 128, .inl (fun _ => nI 0))), (q16, .inl (cI, 16, .inl (fun _ => nI 0))), (q24, .inl (cI, 16, .inl (fun _ => nI 0)))] H := hP
  have hD : va_D A [(h0, .inr (3, [.ref q8, .ref q16, .null, .int (nI 0)])), (q8, .inl (cI, 128, .inl (fun _ => nI 0))), (q16, .inl (cI, 16, .inl (fun _ => nI 0))), (q24, .inl (cI, 16, .inl (fun _ => nI 0)))] := hD
  refine va_putF (D := D) (ci := 3) (v := .ref q24) (ty := .array .int) (C := R_T) (T := F_T) (N := 4) hx hb hts in_T tf_T tt_T nn_T hown hk.1 hP hD hS 0 rfl rfl 2 (by decide) (hts (.fieldLink R_T 18 R_T "welcomeTo" "[I") (by decide +kernel)) (fun _ h9 => h9) rfl hin rfl (by decide +kernel) rfl rfl (Nat.le_of_ble_eq_true rfl) d_T_init_26 (fun H locs hP hD hS => ?_)
  have hP : va_P D cl_ [(h0, .inr (3, [.ref q8, .ref q16, .ref q24, .int (nI 0)])), (q8, .inl (cI, 128, .inl (fun _ => nI 0))), (q16, .inl (cI, 16, .inl (fun _ => nI 0))), (q24, .inl (cI, 16, .inl (fun _ => nI 0)))] H := hP
  have hD : va_D A [(h0, .inr (3, [.ref q8, .ref q16, .ref q24, .int (nI 0)])), (q8, .inl (cI, 128, .inl (fun _ => nI 0))), (q16, .inl (cI, 16, .inl (fun _ => nI 0))), (q24, .inl (cI, 16, .inl (fun _ => nI 0)))] := hD
  refine lv_aload_n hx hb d_T_init_29 rfl (lv_at hl 0 rfl) ?_
  refine lv_iconst (v := nI 0) hx hb d_T_init_30 (by decide) ?_
  refine va_put (D := D) (ci := 3) (v := .int (nI 0)) (ty := .boolean) (C := R_T) (T := F_T) (N := 4) hx hb hts in_T tf_T tt_T nn_T hown hk.1 hP hD hS 0 rfl rfl 3 (by decide) (hts (.fieldLink R_T 21 R_T "grown" "Z") (by decide +kernel)) (fun _ h9 => h9) rfl (by decide +kernel) rfl rfl (Nat.le_of_ble_eq_true rfl) d_T_init_31 (fun H locs hP hD hS => ?_)
  have hP : va_P D cl_ [(h0, .inr (3, [.ref q8, .ref q16, .ref q24, .int (nI 0)])), (q8, .inl (cI, 128, .inl (fun _ => nI 0))), (q16, .inl (cI, 16, .inl (fun _ => nI 0))), (q24, .inl (cI, 16, .inl (fun _ => nI 0)))] H := hP
  have hD : va_D A [(h0, .inr (3, [.ref q8, .ref q16, .ref q24, .int (nI 0)])), (q8, .inl (cI, 128, .inl (fun _ => nI 0))), (q16, .inl (cI, 16, .inl (fun _ => nI 0))), (q24, .inl (cI, 16, .inl (fun _ => nI 0)))] := hD
  have hP9 := hP.sub (ws' := [(h0, .inr (3, [.ref q8, .ref q16, .ref q24, .int (nI 0)])), (q8, .inl (cI, 128, .inl (fun _ => nI 0))), (q16, .inl (cI, 16, .inl (fun _ => nI 0))), (q24, .inl (cI, 16, .inl (fun _ => nI 0)))]) [0, 1, 2, 3] rfl
  have hD9 := hD.sub (ws' := [(h0, .inr (3, [.ref q8, .ref q16, .ref q24, .int (nI 0)])), (q8, .inl (cI, 128, .inl (fun _ => nI 0))), (q16, .inl (cI, 16, .inl (fun _ => nI 0))), (q24, .inl (cI, 16, .inl (fun _ => nI 0)))]) [0, 1, 2, 3] (by decide) rfl
  rw [← hAe] at hD9
  refine W.widen (k := 3) (n := 160) (by decide) (by decide) ?_
  exact W.vret hx hb hr (fun t ht hW => ⟨⟨fun k => [q8, q16, q24].getD k 0, rfl, trivial, by rw [ht]; exact hP9, hD9⟩, by rw [hAe]; exact hS.F ht⟩) hS.2.2 d_T_init_34 hlocks
set_option maxRecDepth 100000 in
set_option maxHeartbeats 4000000 in
theorem c_D_init (l : Launch) (D : va_G) (cI cZ : ClassId) (h0 : Nat) : cc_ l y_D_init (wz_ y_D_init b_D_init 1 none) 1 30 4 2051 D cI cZ [.ref h0] [(h0, .inr (4, [.null, .null, .int (nI 0), .null, .null, .int (nI 0)]))] (fun f => [(h0, .inr (4, [.ref (f 0), .ref (f 1), .int (nI 0), .ref (f 2), .ref (f 3), .int (nI 0)])), (f 0, .inl (cI, 3, .inl (fun _ => nI 0))), (f 1, .inl (cI, 1024, .inl (fun _ => nI 0))), (f 2, .inl (cI, 512, .inl (fun _ => nI 0))), (f 3, .inl (cI, 512, .inl (fun _ => nI 0)))]) := by
  intro sz
  refine Met.ofW (cc := b_D_init) (maxL := 1) (ret := none) (by decide) rfl ?_
  intro p e s m args below meth c s₁ B hml hv
  obtain ⟨rfl, hsz, hP, hk, hD0⟩ := hv
  have hx := B.exec
  have hb := B.bytes
  have hr := B.returns
  have hts0 := atoms_spec (ws := wz_ y_D_init b_D_init 1 none) B.pre
  have hts : ∀ w ∈ ak_, w.before #[Value.ref h0] s = true := fun w hw => hts0 w (List.mem_cons_of_mem _ hw)
  have hown : s.vm.findClass R_D = some m.cls := findClass_of_methodNamed B.named
  have hlocks := B.notSynchronized
  have hin : meth.name = "<init>" := (name_of_methodNamed B.named B.method).1
  have S0 : CallFix p m c b_D_init 1 s #[Value.ref h0] ak_ R_D := ⟨hx, hb, hml, hown, hts⟩
  subst hsz
  have hD := hD0.self (sz := s.heap.size)
  generalize hAe : va_A [(h0, .inr (4, [.null, .null, .int (nI 0), .null, .null, .int (nI 0)]))] s.heap.size = A at hD ⊢
  have hA : ∀ q : Nat, s.heap.size ≤ q → A q := fun q h => by rw [← hAe]; exact Or.inr h
  have hS : va_S A s.heap s.heap [] := va_S.rf
  have hl := lv_entry ([.ref h0]) (n := 1) (Nat.le_of_ble_eq_true rfl)
  rw [lg_entry_eq]
  generalize (lg_sl ([.ref h0]) ++ List.replicate (1 - (lg_sl ([.ref h0])).length) Slot.unset).toArray = ls at hl ⊢
  have hl : lv_has ls 1 [(0, .ref h0)] := hl
  refine lv_aload_n hx hb d_D_init_0 rfl (lv_at hl 0 rfl) ?_
  refine ca_obj S0 hl.1 (by decide +kernel) (by decide) (Nat.le_of_ble_eq_true rfl) d_D_init_1 ?_
  refine lv_aload_n hx hb d_D_init_4 rfl (lv_at hl 0 rfl) ?_
  refine lv_iconst (v := nI 3) hx hb d_D_init_5 (by decide) ?_
  refine ca_newi S0 hk hP hD hS hA (N := 3) (by decide) (by decide) (by decide) d_D_init_6 (fun q6 H hP hD hS => ?_)
  have hP : va_P D cl_ [(h0, .inr (4, [.null, .null, .int (nI 0), .null, .null, .int (nI 0)])), (q6, .inl (cI, 3, .inl (fun _ => nI 0)))] H := hP
  have hD : va_D A [(h0, .inr (4, [.null, .null, .int (nI 0), .null, .null, .int (nI 0)])), (q6, .inl (cI, 3, .inl (fun _ => nI 0)))] := hD
  refine va_putF (D := D) (ci := 4) (v := .ref q6) (ty := .array .int) (C := R_D) (T := F_D) (N := 6) hx hb hts in_D tf_D tt_D nn_D hown hk.1 hP hD hS 0 rfl rfl 0 (by decide) (hts (.fieldLink R_D 11 R_D "shiftOf" "[I") (by decide +kernel)) (fun _ h9 => h9) rfl hin rfl (by decide +kernel) rfl rfl (Nat.le_of_ble_eq_true rfl) d_D_init_8 (fun H locs hP hD hS => ?_)
  have hP : va_P D cl_ [(h0, .inr (4, [.ref q6, .null, .int (nI 0), .null, .null, .int (nI 0)])), (q6, .inl (cI, 3, .inl (fun _ => nI 0)))] H := hP
  have hD : va_D A [(h0, .inr (4, [.ref q6, .null, .int (nI 0), .null, .null, .int (nI 0)])), (q6, .inl (cI, 3, .inl (fun _ => nI 0)))] := hD
  refine lv_aload_n hx hb d_D_init_11 rfl (lv_at hl 0 rfl) ?_
  refine lv_sipush (v := nI 1024) hx hb d_D_init_12 (by decide) ?_
  refine ca_newi S0 hk hP hD hS hA (N := 1024) (by decide) (by decide) (by decide) d_D_init_15 (fun q15 H hP hD hS => ?_)
  have hP : va_P D cl_ [(h0, .inr (4, [.ref q6, .null, .int (nI 0), .null, .null, .int (nI 0)])), (q6, .inl (cI, 3, .inl (fun _ => nI 0))), (q15, .inl (cI, 1024, .inl (fun _ => nI 0)))] H := hP
  have hD : va_D A [(h0, .inr (4, [.ref q6, .null, .int (nI 0), .null, .null, .int (nI 0)])), (q6, .inl (cI, 3, .inl (fun _ => nI 0))), (q15, .inl (cI, 1024, .inl (fun _ => nI 0)))] := hD
  refine va_putF (D := D) (ci := 4) (v := .ref q15) (ty := .array .int) (C := R_D) (T := F_D) (N := 6) hx hb hts in_D tf_D tt_D nn_D hown hk.1 hP hD hS 0 rfl rfl 1 (by decide) (hts (.fieldLink R_D 15 R_D "functions" "[I") (by decide +kernel)) (fun _ h9 => h9) rfl hin rfl (by decide +kernel) rfl rfl (Nat.le_of_ble_eq_true rfl) d_D_init_17 (fun H locs hP hD hS => ?_)
  have hP : va_P D cl_ [(h0, .inr (4, [.ref q6, .ref q15, .int (nI 0), .null, .null, .int (nI 0)])), (q6, .inl (cI, 3, .inl (fun _ => nI 0))), (q15, .inl (cI, 1024, .inl (fun _ => nI 0)))] H := hP
  have hD : va_D A [(h0, .inr (4, [.ref q6, .ref q15, .int (nI 0), .null, .null, .int (nI 0)])), (q6, .inl (cI, 3, .inl (fun _ => nI 0))), (q15, .inl (cI, 1024, .inl (fun _ => nI 0)))] := hD
  refine lv_aload_n hx hb d_D_init_20 rfl (lv_at hl 0 rfl) ?_
  refine lv_iconst (v := nI 0) hx hb d_D_init_21 (by decide) ?_
  refine va_put (D := D) (ci := 4) (v := .int (nI 0)) (ty := .int) (C := R_D) (T := F_D) (N := 6) hx hb hts in_D tf_D tt_D nn_D hown hk.1 hP hD hS 0 rfl rfl 2 (by decide) (hts (.fieldLink R_D 18 R_D "rows" "I") (by decide +kernel)) (fun _ h9 => h9) rfl (by decide +kernel) rfl rfl (Nat.le_of_ble_eq_true rfl) d_D_init_22 (fun H locs hP hD hS => ?_)
  have hP : va_P D cl_ [(h0, .inr (4, [.ref q6, .ref q15, .int (nI 0), .null, .null, .int (nI 0)])), (q6, .inl (cI, 3, .inl (fun _ => nI 0))), (q15, .inl (cI, 1024, .inl (fun _ => nI 0)))] H := hP
  have hD : va_D A [(h0, .inr (4, [.ref q6, .ref q15, .int (nI 0), .null, .null, .int (nI 0)])), (q6, .inl (cI, 3, .inl (fun _ => nI 0))), (q15, .inl (cI, 1024, .inl (fun _ => nI 0)))] := hD
  refine lv_aload_n hx hb d_D_init_25 rfl (lv_at hl 0 rfl) ?_
  refine lv_sipush (v := nI 512) hx hb d_D_init_26 (by decide) ?_
  refine ca_newi S0 hk hP hD hS hA (N := 512) (by decide) (by decide) (by decide) d_D_init_29 (fun q29 H hP hD hS => ?_)
  have hP : va_P D cl_ [(h0, .inr (4, [.ref q6, .ref q15, .int (nI 0), .null, .null, .int (nI 0)])), (q6, .inl (cI, 3, .inl (fun _ => nI 0))), (q15, .inl (cI, 1024, .inl (fun _ => nI 0))), (q29, .inl (cI, 512, .inl (fun _ => nI 0)))] H := hP
  have hD : va_D A [(h0, .inr (4, [.ref q6, .ref q15, .int (nI 0), .null, .null, .int (nI 0)])), (q6, .inl (cI, 3, .inl (fun _ => nI 0))), (q15, .inl (cI, 1024, .inl (fun _ => nI 0))), (q29, .inl (cI, 512, .inl (fun _ => nI 0)))] := hD
  refine va_putF (D := D) (ci := 4) (v := .ref q29) (ty := .array .int) (C := R_D) (T := F_D) (N := 6) hx hb hts in_D tf_D tt_D nn_D hown hk.1 hP hD hS 0 rfl rfl 3 (by decide) (hts (.fieldLink R_D 22 R_D "ifZero" "[I") (by decide +kernel)) (fun _ h9 => h9) rfl hin rfl (by decide +kernel) rfl rfl (Nat.le_of_ble_eq_true rfl) d_D_init_31 (fun H locs hP hD hS => ?_)
  have hP : va_P D cl_ [(h0, .inr (4, [.ref q6, .ref q15, .int (nI 0), .ref q29, .null, .int (nI 0)])), (q6, .inl (cI, 3, .inl (fun _ => nI 0))), (q15, .inl (cI, 1024, .inl (fun _ => nI 0))), (q29, .inl (cI, 512, .inl (fun _ => nI 0)))] H := hP
  have hD : va_D A [(h0, .inr (4, [.ref q6, .ref q15, .int (nI 0), .ref q29, .null, .int (nI 0)])), (q6, .inl (cI, 3, .inl (fun _ => nI 0))), (q15, .inl (cI, 1024, .inl (fun _ => nI 0))), (q29, .inl (cI, 512, .inl (fun _ => nI 0)))] := hD
  refine lv_aload_n hx hb d_D_init_34 rfl (lv_at hl 0 rfl) ?_
  refine lv_sipush (v := nI 512) hx hb d_D_init_35 (by decide) ?_
  refine ca_newi S0 hk hP hD hS hA (N := 512) (by decide) (by decide) (by decide) d_D_init_38 (fun q38 H hP hD hS => ?_)
  have hP : va_P D cl_ [(h0, .inr (4, [.ref q6, .ref q15, .int (nI 0), .ref q29, .null, .int (nI 0)])), (q6, .inl (cI, 3, .inl (fun _ => nI 0))), (q15, .inl (cI, 1024, .inl (fun _ => nI 0))), (q29, .inl (cI, 512, .inl (fun _ => nI 0))), (q38, .inl (cI, 512, .inl (fun _ => nI 0)))] H := hP
  have hD : va_D A [(h0, .inr (4, [.ref q6, .ref q15, .int (nI 0), .ref q29, .null, .int (nI 0)])), (q6, .inl (cI, 3, .inl (fun _ => nI 0))), (q15, .inl (cI, 1024, .inl (fun _ => nI 0))), (q29, .inl (cI, 512, .inl (fun _ => nI 0))), (q38, .inl (cI, 512, .inl (fun _ => nI 0)))] := hD
  refine va_putF (D := D) (ci := 4) (v := .ref q38) (ty := .array .int) (C := R_D) (T := F_D) (N := 6) hx hb hts in_D tf_D tt_D nn_D hown hk.1 hP hD hS 0 rfl rfl 4 (by decide) (hts (.fieldLink R_D 25 R_D "ifOne" "[I") (by decide +kernel)) (fun _ h9 => h9) rfl hin rfl (by decide +kernel) rfl rfl (Nat.le_of_ble_eq_true rfl) d_D_init_40 (fun H locs hP hD hS => ?_)
  have hP : va_P D cl_ [(h0, .inr (4, [.ref q6, .ref q15, .int (nI 0), .ref q29, .ref q38, .int (nI 0)])), (q6, .inl (cI, 3, .inl (fun _ => nI 0))), (q15, .inl (cI, 1024, .inl (fun _ => nI 0))), (q29, .inl (cI, 512, .inl (fun _ => nI 0))), (q38, .inl (cI, 512, .inl (fun _ => nI 0)))] H := hP
  have hD : va_D A [(h0, .inr (4, [.ref q6, .ref q15, .int (nI 0), .ref q29, .ref q38, .int (nI 0)])), (q6, .inl (cI, 3, .inl (fun _ => nI 0))), (q15, .inl (cI, 1024, .inl (fun _ => nI 0))), (q29, .inl (cI, 512, .inl (fun _ => nI 0))), (q38, .inl (cI, 512, .inl (fun _ => nI 0)))] := hD
  refine lv_aload_n hx hb d_D_init_43 rfl (lv_at hl 0 rfl) ?_
  refine lv_iconst (v := nI 0) hx hb d_D_init_44 (by decide) ?_
  refine va_put (D := D) (ci := 4) (v := .int (nI 0)) (ty := .int) (C := R_D) (T := F_D) (N := 6) hx hb hts in_D tf_D tt_D nn_D hown hk.1 hP hD hS 0 rfl rfl 5 (by decide) (hts (.fieldLink R_D 28 R_D "found" "I") (by decide +kernel)) (fun _ h9 => h9) rfl (by decide +kernel) rfl rfl (Nat.le_of_ble_eq_true rfl) d_D_init_45 (fun H locs hP hD hS => ?_)
  have hP : va_P D cl_ [(h0, .inr (4, [.ref q6, .ref q15, .int (nI 0), .ref q29, .ref q38, .int (nI 0)])), (q6, .inl (cI, 3, .inl (fun _ => nI 0))), (q15, .inl (cI, 1024, .inl (fun _ => nI 0))), (q29, .inl (cI, 512, .inl (fun _ => nI 0))), (q38, .inl (cI, 512, .inl (fun _ => nI 0)))] H := hP
  have hD : va_D A [(h0, .inr (4, [.ref q6, .ref q15, .int (nI 0), .ref q29, .ref q38, .int (nI 0)])), (q6, .inl (cI, 3, .inl (fun _ => nI 0))), (q15, .inl (cI, 1024, .inl (fun _ => nI 0))), (q29, .inl (cI, 512, .inl (fun _ => nI 0))), (q38, .inl (cI, 512, .inl (fun _ => nI 0)))] := hD
  have hP9 := hP.sub (ws' := [(h0, .inr (4, [.ref q6, .ref q15, .int (nI 0), .ref q29, .ref q38, .int (nI 0)])), (q6, .inl (cI, 3, .inl (fun _ => nI 0))), (q15, .inl (cI, 1024, .inl (fun _ => nI 0))), (q29, .inl (cI, 512, .inl (fun _ => nI 0))), (q38, .inl (cI, 512, .inl (fun _ => nI 0)))]) [0, 1, 2, 3, 4] rfl
  have hD9 := hD.sub (ws' := [(h0, .inr (4, [.ref q6, .ref q15, .int (nI 0), .ref q29, .ref q38, .int (nI 0)])), (q6, .inl (cI, 3, .inl (fun _ => nI 0))), (q15, .inl (cI, 1024, .inl (fun _ => nI 0))), (q29, .inl (cI, 512, .inl (fun _ => nI 0))), (q38, .inl (cI, 512, .inl (fun _ => nI 0)))]) [0, 1, 2, 3, 4] (by decide) rfl
  rw [← hAe] at hD9
  refine W.widen (k := 4) (n := 2051) (by decide) (by decide) ?_
  exact W.vret hx hb hr (fun t ht hW => ⟨⟨fun k => [q6, q15, q29, q38].getD k 0, rfl, trivial, by rw [ht]; exact hP9, hD9⟩, by rw [hAe]; exact hS.F ht⟩) hS.2.2 d_D_init_48 hlocks

