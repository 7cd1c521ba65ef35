/-! the class's helpers -/
set_option maxRecDepth 100000 in
set_option maxHeartbeats 4000000 in
theorem c_P_isWithin (l : Launch) (X : wX) (σ : sg) (x : Int32) (n : Nat) (hn : n < 2 ^ 31) : mt_ l X y_P_isWithin w_P_isWithin 0 [.int x, .int (nI n)] σ (ei_ (nI (wi_ x n).toNat) σ) := by
  refine mt_of (own := R_P) rfl pl_P (Nat.le_of_ble_eq_true rfl) ?_
  intro zp ze zs zm za zb zt zc F hr hlk
  refine qv_sub (L' := [(0, _), (1, _)]) [0, 1] rfl ?_
  refine qv_iload_n F d_P_isWithin_0 0 rfl ?_
  refine qv_iflt F d_P_isWithin_1 rfl (fun hb => ?_) (fun hb => ?_)
  ·
    refine qv_iconst F (nI 0) d_P_isWithin_13 ic_0 ?_
    exact qv_zret F hr hlk (by first | exact Or.inl rfl | exact Or.inr rfl | exact bz_01 _) d_P_isWithin_14 (ei_of (by rw [wi_neg hb]; rfl) rfl)
  ·
    have h0 := hb
    refine qv_iload_n F d_P_isWithin_4 0 rfl ?_
    refine qv_iload_n F d_P_isWithin_5 1 rfl ?_
    refine qv_icmpgeI F d_P_isWithin_6 rfl (fun hb => ?_) (fun hb => ?_)
    ·
      refine qv_iconst F (nI 0) d_P_isWithin_13 ic_0 ?_
      exact qv_zret F hr hlk (by first | exact Or.inl rfl | exact Or.inr rfl | exact bz_01 _) d_P_isWithin_14 (ei_of (by rw [wi_ge hn hb]; rfl) rfl)
    ·
      refine qv_iconst F (nI 1) d_P_isWithin_9 ic_1 ?_
      refine qv_goto F d_P_isWithin_10 rfl ?_
      exact qv_zret F hr hlk (by first | exact Or.inl rfl | exact Or.inr rfl | exact bz_01 _) d_P_isWithin_14 (ei_of (by rw [wi_in hn h0 hb]; rfl) rfl)
set_option maxRecDepth 100000 in
set_option maxHeartbeats 4000000 in
theorem c_P_methodOf (l : Launch) (X : wX) (σ : sg) (v : Nat) (hv : v < 2 ^ 31) : mt_ l X y_P_methodOf w_P_methodOf 0 [.int (nI v)] σ (ei_ (nI (v / 4)) σ) := by
  refine mt_of (own := R_P) rfl pl_P (Nat.le_of_ble_eq_true rfl) ?_
  intro zp ze zs zm za zb zt zc F hr hlk
  refine qv_sub (L' := [(0, _)]) [0] rfl ?_
  refine qv_iload_n F d_P_methodOf_0 0 rfl ?_
  refine qv_iconst F (nI 4) d_P_methodOf_1 ic_4 ?_
  refine qv_idiv F d_P_methodOf_2 hv (by decide) (by decide) ?_
  exact qv_iret F hr hlk d_P_methodOf_3 (ei_of rfl rfl)
set_option maxRecDepth 100000 in
set_option maxHeartbeats 4000000 in
theorem c_P_hasBit (l : Launch) (X : wX) (σ : sg) (a b : Nat) (ha : a < 2 ^ 31) (hb : b < 32) : mt_ l X y_P_hasBit w_P_hasBit 0 [.int (nI a), .int (nI b)] σ (ei_ (nI (a.testBit b).toNat) σ) := by
  refine mt_of (own := R_P) rfl pl_P (Nat.le_of_ble_eq_true rfl) ?_
  intro zp ze zs zm za zb zt zc F hr hlk
  refine qv_sub (L' := [(0, _), (1, _)]) [0, 1] rfl ?_
  refine qv_iload_n F d_P_hasBit_0 0 rfl ?_
  refine qv_iload_n F d_P_hasBit_1 1 rfl ?_
  refine qv_ishr F d_P_hasBit_2 hb ha ?_
  refine qv_iconst F (nI 1) d_P_hasBit_3 ic_1 ?_
  refine qv_iand F d_P_hasBit_4 ?_
  rw [bt_and]
  refine qv_ifeqB F d_P_hasBit_5 rfl (fun hb => ?_) (fun hb => ?_)
  ·
    refine qv_iconst F (nI 0) d_P_hasBit_12 ic_0 ?_
    exact qv_zret F hr hlk (by first | exact Or.inl rfl | exact Or.inr rfl | exact bz_01 _) d_P_hasBit_13 (ei_of (by rw [hb]; rfl) rfl)
  ·
    refine qv_iconst F (nI 1) d_P_hasBit_8 ic_1 ?_
    refine qv_goto F d_P_hasBit_9 rfl ?_
    exact qv_zret F hr hlk (by first | exact Or.inl rfl | exact Or.inr rfl | exact bz_01 _) d_P_hasBit_13 (ei_of (by rw [hb]; rfl) rfl)
set_option maxRecDepth 100000 in
set_option maxHeartbeats 4000000 in
theorem c_P_isOfMethod (l : Launch) (X : wX) (σ : sg) (x : Int32) (n : Nat) (hn : n < 2 ^ 31) : mt_ l X y_P_isOfMethod w_P_isOfMethod 1 [.int x, .int (nI n)] σ (ei_ (nI (wi_ x 16 && decide (tn_ x / 4 = n)).toNat) σ) := by
  refine mt_of (own := R_P) rfl pl_P (Nat.le_of_ble_eq_true rfl) ?_
  intro zp ze zs zm za zb zt zc F hr hlk
  refine qv_sub (L' := [(0, _), (1, _)]) [0, 1] rfl ?_
  refine qv_iload_n F d_P_isOfMethod_0 0 rfl ?_
  refine qv_bipush F (nI 16) d_P_isOfMethod_1 bic_16 ?_
  refine i_P_41i F (c_P_isWithin l X σ x 16 (by decide)) (by decide) (Nat.le_of_ble_eq_true rfl) d_P_isOfMethod_3 ?_
  refine qv_ifeqB F d_P_isOfMethod_6 rfl (fun hb => ?_) (fun hb => ?_)
  ·
    refine qv_iconst F (nI 0) d_P_isOfMethod_21 ic_0 ?_
    exact qv_zret F hr hlk (by first | exact Or.inl rfl | exact Or.inr rfl | exact bz_01 _) d_P_isOfMethod_22 (ei_of (by rw [hb]; rfl) rfl)
  ·
    rw [hb]
    obtain ⟨j, hj, rfl⟩ := wi_t (by decide) hb
    refine qv_iload_n F d_P_isOfMethod_9 0 rfl ?_
    refine i_P_123i F (c_P_methodOf l X σ j (by omega)) (by decide) (Nat.le_of_ble_eq_true rfl) d_P_isOfMethod_10 ?_
    rw [tn_nI (by omega)]
    refine qv_iload_n F d_P_isOfMethod_13 1 rfl ?_
    refine qv_icmpne F d_P_isOfMethod_14 rfl (by omega) (by omega) (fun hb => ?_) (fun hb => ?_)
    ·
      refine qv_iconst F (nI 0) d_P_isOfMethod_21 ic_0 ?_
      exact qv_zret F hr hlk (by first | exact Or.inl rfl | exact Or.inr rfl | exact bz_01 _) d_P_isOfMethod_22 (ei_of (by rw [decide_eq_false hb]; rfl) rfl)
    ·
      refine qv_iconst F (nI 1) d_P_isOfMethod_17 ic_1 ?_
      refine qv_goto F d_P_isOfMethod_18 rfl ?_
      exact qv_zret F hr hlk (by first | exact Or.inl rfl | exact Or.inr rfl | exact bz_01 _) d_P_isOfMethod_22 (ei_of (by rw [decide_eq_true hb]; rfl) rfl)
set_option maxRecDepth 100000 in
set_option maxHeartbeats 4000000 in
theorem c_P_areOfOneMethod (l : Launch) (X : wX) (σ : sg) (x y : Int32) : mt_ l X y_P_areOfOneMethod w_P_areOfOneMethod 2 [.int x, .int y] σ (ei_ (nI (wi_ y 16 && (wi_ x 16 && decide (tn_ x / 4 = tn_ y / 4))).toNat) σ) := by
  refine mt_of (own := R_P) rfl pl_P (Nat.le_of_ble_eq_true rfl) ?_
  intro zp ze zs zm za zb zt zc F hr hlk
  refine qv_sub (L' := [(0, _), (1, _)]) [0, 1] rfl ?_
  refine qv_iload_n F d_P_areOfOneMethod_0 1 rfl ?_
  refine qv_bipush F (nI 16) d_P_areOfOneMethod_1 bic_16 ?_
  refine i_P_41i F (c_P_isWithin l X σ y 16 (by decide)) (by decide) (Nat.le_of_ble_eq_true rfl) d_P_areOfOneMethod_3 ?_
  refine qv_ifeqB F d_P_areOfOneMethod_6 rfl (fun hb => ?_) (fun hb => ?_)
  ·
    refine qv_iconst F (nI 0) d_P_areOfOneMethod_24 ic_0 ?_
    exact qv_zret F hr hlk (by first | exact Or.inl rfl | exact Or.inr rfl | exact bz_01 _) d_P_areOfOneMethod_25 (ei_of (by rw [hb]; rfl) rfl)
  ·
    rw [hb]
    obtain ⟨j, hj, rfl⟩ := wi_t (by decide) hb
    refine qv_iload_n F d_P_areOfOneMethod_9 0 rfl ?_
    refine qv_iload_n F d_P_areOfOneMethod_10 1 rfl ?_
    refine i_P_123i F (c_P_methodOf l X σ j (by omega)) (by decide) (Nat.le_of_ble_eq_true rfl) d_P_areOfOneMethod_11 ?_
    rw [tn_nI (by omega)]
    refine i_P_127i F (c_P_isOfMethod l X σ x (j / 4) (by omega)) (by decide) (Nat.le_of_ble_eq_true rfl) d_P_areOfOneMethod_14 ?_
    refine qv_ifeqB F d_P_areOfOneMethod_17 rfl (fun hb => ?_) (fun hb => ?_)
    ·
      refine qv_iconst F (nI 0) d_P_areOfOneMethod_24 ic_0 ?_
      exact qv_zret F hr hlk (by first | exact Or.inl rfl | exact Or.inr rfl | exact bz_01 _) d_P_areOfOneMethod_25 (ei_of (by rw [hb]; rfl) rfl)
    ·
      refine qv_iconst F (nI 1) d_P_areOfOneMethod_20 ic_1 ?_
      refine qv_goto F d_P_areOfOneMethod_21 rfl ?_
      exact qv_zret F hr hlk (by first | exact Or.inl rfl | exact Or.inr rfl | exact bz_01 _) d_P_areOfOneMethod_25 (ei_of (by rw [hb]; rfl) rfl)

