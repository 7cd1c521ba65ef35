/-! contexts: small methods -/
set_option maxRecDepth 100000 in
set_option maxHeartbeats 4000000 in
theorem c_N_contextBy (l : Launch) (X : wX) (σ : sg) (k c : Nat) (hk : k < 8) : mt_ l X y_N_contextBy w_N_contextBy 0 [.ref (adr X 2), .int (nI k), .int (nI c)] σ (ei_ (nI (σ 18 k + c)) σ) := by
  refine mt_of (own := R_N) rfl pl_N (Nat.le_of_ble_eq_true rfl) ?_
  intro zp ze zs zm za zb zt zc F hr hlk
  refine qv_sub (L' := [(0, _), (1, _), (2, _)]) [0, 1, 2] rfl ?_
  refine qv_aload_n F d_N_contextBy_0 0 rfl ?_
  refine g_N_15 F d_N_contextBy_1 ?_
  refine qv_iload_n F d_N_contextBy_4 1 rfl ?_
  refine ld_18 F (by omega) d_N_contextBy_5 ?_
  refine qv_iload_n F d_N_contextBy_6 2 rfl ?_
  refine qv_iadd F d_N_contextBy_7 ?_
  exact qv_iret F hr hlk d_N_contextBy_8 (ei_of rfl rfl)
set_option maxRecDepth 100000 in
set_option maxHeartbeats 4000000 in
theorem c_T_pointedTo (l : Launch) (X : wX) (σ : sg) (c v : Nat) (h : c * 16 + v < 128) : mt_ l X y_T_pointedTo w_T_pointedTo 0 [.ref (adr X 3), .int (nI c), .int (nI v)] σ (ei_ (nI (σ 21 (c * 16 + v))) σ) := by
  refine mt_of (own := R_T) rfl pl_T (Nat.le_of_ble_eq_true rfl) ?_
  intro zp ze zs zm za zb zt zc F hr hlk
  refine qv_sub (L' := [(0, _), (1, _), (2, _)]) [0, 1, 2] rfl ?_
  refine qv_aload_n F d_T_pointedTo_0 0 rfl ?_
  refine g_T_11 F d_T_pointedTo_1 ?_
  refine qv_iload_n F d_T_pointedTo_4 1 rfl ?_
  refine qv_bipush F (nI 16) d_T_pointedTo_5 bic_16 ?_
  refine qv_imul F d_T_pointedTo_7 ?_
  refine qv_iload_n F d_T_pointedTo_8 2 rfl ?_
  refine qv_iadd F d_T_pointedTo_9 ?_
  refine ld_21 F (by omega) d_T_pointedTo_10 ?_
  exact qv_iret F hr hlk d_T_pointedTo_11 (ei_of rfl rfl)
set_option maxRecDepth 100000 in
set_option maxHeartbeats 4000000 in
theorem c_T_heldIn (l : Launch) (X : wX) (σ : sg) (h f : Nat) (hh : h * 2 + f < 16) : mt_ l X y_T_heldIn w_T_heldIn 0 [.ref (adr X 3), .int (nI h), .int (nI f)] σ (ei_ (nI (σ 22 (h * 2 + f))) σ) := by
  refine mt_of (own := R_T) rfl pl_T (Nat.le_of_ble_eq_true rfl) ?_
  intro zp ze zs zm za zb zt zc F hr hlk
  refine qv_sub (L' := [(0, _), (1, _), (2, _)]) [0, 1, 2] rfl ?_
  refine qv_aload_n F d_T_heldIn_0 0 rfl ?_
  refine g_T_15 F d_T_heldIn_1 ?_
  refine qv_iload_n F d_T_heldIn_4 1 rfl ?_
  refine qv_iconst F (nI 2) d_T_heldIn_5 ic_2 ?_
  refine qv_imul F d_T_heldIn_6 ?_
  refine qv_iload_n F d_T_heldIn_7 2 rfl ?_
  refine qv_iadd F d_T_heldIn_8 ?_
  refine ld_22 F (by omega) d_T_heldIn_9 ?_
  exact qv_iret F hr hlk d_T_heldIn_10 (ei_of rfl rfl)
abbrev rf_ (σ : sg) : rl_ := fun a b => (σ 19 a).testBit b
theorem gp_rf (σ : sg) (a b : Nat) : gp_ (rf_ σ) a b = (a == b || ((σ 19 a).testBit b && (σ 19 b).testBit a)) := rfl
set_option maxRecDepth 100000 in
set_option maxHeartbeats 4000000 in
theorem c_N_areOfOneGroup (l : Launch) (X : wX) (σ : sg) (a b : Nat) (ha : a < 4) (hb0 : b < 4) (h19 : ∀ k, k < 4 → σ 19 k < 16) : mt_ l X y_N_areOfOneGroup w_N_areOfOneGroup 1 [.ref (adr X 2), .int (nI a), .int (nI b)] σ (ei_ (nI (gp_ (rf_ σ) a b).toNat) σ) := by
  refine mt_of (own := R_N) rfl pl_N (Nat.le_of_ble_eq_true rfl) ?_
  intro zp ze zs zm za zb zt zc F hr hlk
  refine qv_sub (L' := [(0, _), (1, _), (2, _)]) [0, 1, 2] rfl ?_
  have q1 := h19 a ha
  have q2 := h19 b hb0
  refine qv_iload_n F d_N_areOfOneGroup_0 1 rfl ?_
  refine qv_iload_n F d_N_areOfOneGroup_1 2 rfl ?_
  refine qv_icmpeq F d_N_areOfOneGroup_2 rfl (by omega) (by omega) (fun hb => ?_) (fun hb => ?_)
  ·
    refine qv_iconst F (nI 1) d_N_areOfOneGroup_31 ic_1 ?_
    refine qv_goto F d_N_areOfOneGroup_32 rfl ?_
    exact qv_zret F hr hlk (by first | exact Or.inl rfl | exact Or.inr rfl | exact bz_01 _) d_N_areOfOneGroup_36 (ei_of (by rw [gp_rf, beq_iff_eq.mpr hb]; rfl) rfl)
  ·
    have hne : (a == b) = false := by rw [← Bool.not_eq_true, beq_iff_eq]; exact hb
    refine qv_aload_n F d_N_areOfOneGroup_5 0 rfl ?_
    refine g_N_22 F d_N_areOfOneGroup_6 ?_
    refine qv_iload_n F d_N_areOfOneGroup_9 1 rfl ?_
    refine ld_19 F (by omega) d_N_areOfOneGroup_10 ?_
    refine qv_iload_n F d_N_areOfOneGroup_11 2 rfl ?_
    refine i_N_53i F (c_P_hasBit l X σ (σ 19 a) b (by omega) (by omega)) (by decide) (Nat.le_of_ble_eq_true rfl) d_N_areOfOneGroup_12 ?_
    refine qv_ifeqB F d_N_areOfOneGroup_15 rfl (fun hb => ?_) (fun hb => ?_)
    ·
      refine qv_iconst F (nI 0) d_N_areOfOneGroup_35 ic_0 ?_
      exact qv_zret F hr hlk (by first | exact Or.inl rfl | exact Or.inr rfl | exact bz_01 _) d_N_areOfOneGroup_36 (ei_of (by rw [gp_rf, hne, hb]; rfl) rfl)
    ·
      have hab := hb
      refine qv_aload_n F d_N_areOfOneGroup_18 0 rfl ?_
      refine g_N_22 F d_N_areOfOneGroup_19 ?_
      refine qv_iload_n F d_N_areOfOneGroup_22 2 rfl ?_
      refine ld_19 F (by omega) d_N_areOfOneGroup_23 ?_
      refine qv_iload_n F d_N_areOfOneGroup_24 1 rfl ?_
      refine i_N_53i F (c_P_hasBit l X σ (σ 19 b) a (by omega) (by omega)) (by decide) (Nat.le_of_ble_eq_true rfl) d_N_areOfOneGroup_25 ?_
      refine qv_ifeqB F d_N_areOfOneGroup_28 rfl (fun hb => ?_) (fun hb => ?_)
      ·
        refine qv_iconst F (nI 0) d_N_areOfOneGroup_35 ic_0 ?_
        exact qv_zret F hr hlk (by first | exact Or.inl rfl | exact Or.inr rfl | exact bz_01 _) d_N_areOfOneGroup_36 (ei_of (by rw [gp_rf, hne, hab, hb]; rfl) rfl)
      ·
        refine qv_iconst F (nI 1) d_N_areOfOneGroup_31 ic_1 ?_
        refine qv_goto F d_N_areOfOneGroup_32 rfl ?_
        exact qv_zret F hr hlk (by first | exact Or.inl rfl | exact Or.inr rfl | exact bz_01 _) d_N_areOfOneGroup_36 (ei_of (by rw [gp_rf, hne, hab, hb]; rfl) rfl)
set_option maxRecDepth 100000 in
set_option maxHeartbeats 4000000 in
theorem c_N_isOuter (l : Launch) (X : wX) (σ : sg) (k : Nat) (hk : k < 8) (h11 : ∀ k, σ 11 k < 4) (h12 : ∀ k, σ 12 k < 4) (h19 : ∀ k, k < 4 → σ 19 k < 16) : mt_ l X y_N_isOuter w_N_isOuter 2 [.ref (adr X 2), .ref (adr X 1), .int (nI k)] σ (ei_ (nI (ou_ σ (rf_ σ) k).toNat) σ) := by
  refine mt_of (own := R_N) rfl pl_N (Nat.le_of_ble_eq_true rfl) ?_
  intro zp ze zs zm za zb zt zc F hr hlk
  refine qv_sub (L' := [(0, _), (1, _), (2, _)]) [0, 1, 2] rfl ?_
  refine qv_aload_n F d_N_isOuter_0 0 rfl ?_
  refine qv_aload_n F d_N_isOuter_1 1 rfl ?_
  refine g_N_47 F d_N_isOuter_2 ?_
  refine qv_iload_n F d_N_isOuter_5 2 rfl ?_
  refine ld_11 F (by omega) d_N_isOuter_6 ?_
  refine qv_aload_n F d_N_isOuter_7 1 rfl ?_
  refine g_N_50 F d_N_isOuter_8 ?_
  refine qv_iload_n F d_N_isOuter_11 2 rfl ?_
  refine ld_12 F (by omega) d_N_isOuter_12 ?_
  refine i_N_71i F (c_N_areOfOneGroup l X σ (σ 11 k) (σ 12 k) (h11 k) (h12 k) h19) (by decide) (Nat.le_of_ble_eq_true rfl) d_N_isOuter_13 ?_
  refine qv_ifneB F d_N_isOuter_16 rfl (fun hb => ?_) (fun hb => ?_)
  ·
    refine qv_iconst F (nI 0) d_N_isOuter_23 ic_0 ?_
    exact qv_zret F hr hlk (by first | exact Or.inl rfl | exact Or.inr rfl | exact bz_01 _) d_N_isOuter_24 (ei_of (by unfold ou_; rw [hb]; rfl) rfl)
  ·
    refine qv_iconst F (nI 1) d_N_isOuter_19 ic_1 ?_
    refine qv_goto F d_N_isOuter_20 rfl ?_
    exact qv_zret F hr hlk (by first | exact Or.inl rfl | exact Or.inr rfl | exact bz_01 _) d_N_isOuter_24 (ei_of (by unfold ou_; rw [hb]; rfl) rfl)
set_option maxRecDepth 100000 in
set_option maxHeartbeats 4000000 in
theorem c_N_broughtBefore (l : Launch) (X : wX) (σ : sg) (n mm : Nat) (hn : n ≤ 8) (hm : mm < 4) (h11 : ∀ k, σ 11 k < 4) (h12 : ∀ k, σ 12 k < 4) (h19 : ∀ k, k < 4 → σ 19 k < 16) : mt_ l X y_N_broughtBefore w_N_broughtBefore 3 [.ref (adr X 2), .ref (adr X 1), .int (nI n), .int (nI mm)] σ (ei_ (nI (br_ σ (rf_ σ) (σ 20) mm n)) σ) := by
  refine mt_of (own := R_N) rfl pl_N (Nat.le_of_ble_eq_true rfl) ?_
  intro zp ze zs zm za zb zt zc F hr hlk
  refine qv_sub (L' := [(0, _), (1, _), (2, _), (3, _)]) [0, 1, 2, 3] rfl ?_
  refine qv_iconst F (nI 0) d_N_broughtBefore_0 ic_0 ?_
  refine qv_istore (L' := [(4, _), (0, _), (1, _), (2, _), (3, _)]) F d_N_broughtBefore_1 (by decide) rfl ?_
  refine qv_iconst F (nI 0) d_N_broughtBefore_3 ic_0 ?_
  refine qv_istore (L' := [(5, _), (4, _), (0, _), (1, _), (2, _), (3, _)]) F d_N_broughtBefore_4 (by decide) rfl ?_
  have lp := lu_up (fun i (_ : Unit) => vv_ zp l ze (rr_ 3) zs zm za zb zt zc (MQ zb (mq_ X (ei_ (nI (br_ σ (rf_ σ) (σ 20) mm n)) σ)) za zs 0 0 (aw_ X)) X 6 [(5, .int (nI i)), (4, .int (nI (br_ σ (rf_ σ) (σ 20) mm i))), (0, .ref (adr X 2)), (1, .ref (adr X 1)), (2, .int (nI n)), (3, .int (nI mm))] σ 6 []) (fun _ _ => True) n ?_ ?_ 0 () (Nat.zero_le _) trivial
  · exact lp
  · intro _ _
    refine qv_iload F d_N_broughtBefore_6 0 rfl ?_
    refine qv_iload_n F d_N_broughtBefore_8 4 rfl ?_
    refine qv_icmpge F d_N_broughtBefore_9 rfl (by omega) (by omega) (fun hb => ?_) (fun hb => ?_)
    ·
      refine qv_iload F d_N_broughtBefore_60 1 rfl ?_
      exact qv_iret F hr hlk d_N_broughtBefore_62 (ei_of rfl rfl)
    ·
      omega
  · intro i _ hi _ ih
    have q11 := h11 i
    refine qv_iload F d_N_broughtBefore_6 0 rfl ?_
    refine qv_iload_n F d_N_broughtBefore_8 4 rfl ?_
    refine qv_icmpge F d_N_broughtBefore_9 rfl (by omega) (by omega) (fun hb => ?_) (fun hb => ?_)
    ·
      omega
    ·
      refine qv_aload_n F d_N_broughtBefore_12 2 rfl ?_
      refine qv_aload_n F d_N_broughtBefore_13 3 rfl ?_
      refine qv_iload F d_N_broughtBefore_14 0 rfl ?_
      refine i_N_67i F (c_N_isOuter l X σ i (by omega) h11 h12 h19) (by decide) (Nat.le_of_ble_eq_true rfl) d_N_broughtBefore_16 ?_
      refine qv_ifeqB F d_N_broughtBefore_19 rfl (fun hb => ?_) (fun hb => ?_)
      ·
        have e : br_ σ (rf_ σ) (σ 20) mm i = br_ σ (rf_ σ) (σ 20) mm (i + 1) := by
          show _ = br_ σ (rf_ σ) (σ 20) mm i + b1_ σ (rf_ σ) (σ 20) mm i
          unfold b1_
          rw [hb]
          rfl
        rw [e]
        refine qv_iinc (L' := [(5, _), (4, _), (0, _), (1, _), (2, _), (3, _)]) F _ d_N_broughtBefore_54 0 rfl (ii_1 _) (by decide) rfl ?_
        refine qv_goto F d_N_broughtBefore_57 rfl ?_
        exact ih () trivial
      ·
        have ho := hb
        refine qv_aload_n F d_N_broughtBefore_22 2 rfl ?_
        refine qv_aload_n F d_N_broughtBefore_23 3 rfl ?_
        refine g_N_50 F d_N_broughtBefore_24 ?_
        refine qv_iload F d_N_broughtBefore_27 0 rfl ?_
        refine ld_12 F (by omega) d_N_broughtBefore_29 ?_
        refine qv_iload_n F d_N_broughtBefore_30 5 rfl ?_
        refine i_N_71i F (c_N_areOfOneGroup l X σ (σ 12 i) mm (h12 i) hm h19) (by decide) (Nat.le_of_ble_eq_true rfl) d_N_broughtBefore_31 ?_
        refine qv_ifeqB F d_N_broughtBefore_34 rfl (fun hb => ?_) (fun hb => ?_)
        ·
          have e : br_ σ (rf_ σ) (σ 20) mm i = br_ σ (rf_ σ) (σ 20) mm (i + 1) := by
            show _ = br_ σ (rf_ σ) (σ 20) mm i + b1_ σ (rf_ σ) (σ 20) mm i
            unfold b1_
            rw [ho, hb]
            rfl
          rw [e]
          refine qv_iinc (L' := [(5, _), (4, _), (0, _), (1, _), (2, _), (3, _)]) F _ d_N_broughtBefore_54 0 rfl (ii_1 _) (by decide) rfl ?_
          refine qv_goto F d_N_broughtBefore_57 rfl ?_
          exact ih () trivial
        ·
          have e : br_ σ (rf_ σ) (σ 20) mm (i + 1) = br_ σ (rf_ σ) (σ 20) mm i + σ 20 (σ 11 i) := by
            show br_ σ (rf_ σ) (σ 20) mm i + b1_ σ (rf_ σ) (σ 20) mm i = _
            unfold b1_
            rw [ho, hb]
            rfl
          have ih := ih () trivial
          rw [e] at ih
          refine qv_iload F d_N_broughtBefore_37 1 rfl ?_
          refine qv_aload_n F d_N_broughtBefore_39 2 rfl ?_
          refine g_N_25 F d_N_broughtBefore_40 ?_
          refine qv_aload_n F d_N_broughtBefore_43 3 rfl ?_
          refine g_N_47 F d_N_broughtBefore_44 ?_
          refine qv_iload F d_N_broughtBefore_47 0 rfl ?_
          refine ld_11 F (by omega) d_N_broughtBefore_49 ?_
          refine ld_20 F (by omega) d_N_broughtBefore_50 ?_
          refine qv_iadd F d_N_broughtBefore_51 ?_
          refine qv_istore (L' := [(4, _), (5, _), (0, _), (1, _), (2, _), (3, _)]) F d_N_broughtBefore_52 (by decide) rfl ?_
          refine qv_sub (L' := [(5, _), (4, _), (0, _), (1, _), (2, _), (3, _)]) [1, 0, 2, 3, 4, 5] rfl ?_
          refine qv_iinc (L' := [(5, _), (4, _), (0, _), (1, _), (2, _), (3, _)]) F _ d_N_broughtBefore_54 0 rfl (ii_1 _) (by decide) rfl ?_
          refine qv_goto F d_N_broughtBefore_57 rfl ?_
          exact ih

