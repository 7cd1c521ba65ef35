/-! the reference's face: told, asked -/
theorem wi_gt {x h : Int32} {n : Nat} (hh : h.toInt = (n : Int) - 1) (q : h < x) : wi_ x n = false := by
  have h1 : h.toInt < x.toInt := Int32.lt_iff_toInt_lt.mp q
  unfold wi_
  rw [decide_eq_false_iff_not]
  omega
theorem wi_le {x h : Int32} {n : Nat} (hh : h.toInt = (n : Int) - 1) (q0 : ¬ x < 0) (q : ¬ h < x) : wi_ x n = true := by
  have h1 : ¬ h.toInt < x.toInt := fun z => q (Int32.lt_iff_toInt_lt.mpr z)
  have h2 : ¬ x.toInt < (0 : Int32).toInt := fun z => q0 (Int32.lt_iff_toInt_lt.mpr z)
  have h3 : (0 : Int32).toInt = 0 := by decide
  unfold wi_
  rw [decide_eq_true_eq]
  omega
set_option maxRecDepth 100000 in
set_option maxHeartbeats 4000000 in
theorem c_M_in (l : Launch) (X : wX) (σ : sg) (x h : Int32) (n : Nat) (hh : h.toInt = (n : Int) - 1) : mt_ l X y_M_in w_M_in 0 [.int x, .int h] σ (ei_ (nI (wi_ x n).toNat) σ) := by
  refine mt_of (own := R_M) rfl pl_M (Nat.le_of_ble_eq_true rfl) ?_
  intro zp ze zs zm za zb zt zc F hr hlk
  refine qv_sub (L' := [(0, _), (1, _)]) [0, 1] rfl ?_
  refine qv_iload_n F d_M_in_0 0 rfl ?_
  refine qv_iflt F d_M_in_1 rfl (fun hb => ?_) (fun hb => ?_)
  ·
    refine qv_iconst F (nI 0) d_M_in_13 ic_0 ?_
    exact qv_zret F hr hlk (by first | exact Or.inl rfl | exact Or.inr rfl | exact bz_01 _) d_M_in_14 (ei_of (by rw [wi_neg hb]; rfl) rfl)
  ·
    have h0 := hb
    refine qv_iload_n F d_M_in_4 0 rfl ?_
    refine qv_iload_n F d_M_in_5 1 rfl ?_
    refine qv_icmpgtI F d_M_in_6 rfl (fun hb => ?_) (fun hb => ?_)
    ·
      refine qv_iconst F (nI 0) d_M_in_13 ic_0 ?_
      exact qv_zret F hr hlk (by first | exact Or.inl rfl | exact Or.inr rfl | exact bz_01 _) d_M_in_14 (ei_of (by rw [wi_gt hh hb]; rfl) rfl)
    ·
      refine qv_iconst F (nI 1) d_M_in_9 ic_1 ?_
      refine qv_goto F d_M_in_10 rfl ?_
      exact qv_zret F hr hlk (by first | exact Or.inl rfl | exact Or.inr rfl | exact bz_01 _) d_M_in_14 (ei_of (by rw [wi_le hh h0 hb]; rfl) rfl)
set_option maxRecDepth 100000 in
set_option maxHeartbeats 4000000 in
theorem c_M_kind (l : Launch) (X : wX) (σ : sg) (x y : Int32) : mt_ l X y_M_kind w_M_kind 1 [.ref (adr X 28), .int x, .int y] σ (ei_ (nI (wi_ x 8 && wi_ y 4).toNat) (if (wi_ x 8 && wi_ y 4) = true then us σ 29 (tn_ x) (tn_ y) else σ)) := by
  refine mt_of (own := R_M) rfl pl_M (Nat.le_of_ble_eq_true rfl) ?_
  intro zp ze zs zm za zb zt zc F hr hlk
  refine qv_sub (L' := [(0, _), (1, _), (2, _)]) [0, 1, 2] rfl ?_
  refine qv_iload_n F d_M_kind_0 1 rfl ?_
  refine qv_bipush F (nI 7) d_M_kind_1 bic_7 ?_
  refine i_M_71i F (c_M_in l X σ x (nI 7) 8 (by decide)) (by decide) (Nat.le_of_ble_eq_true rfl) d_M_kind_3 ?_
  refine qv_ifeqB F d_M_kind_6 rfl (fun hb => ?_) (fun hb => ?_)
  ·
    refine qv_iconst F (nI 0) d_M_kind_17 ic_0 ?_
    exact qv_zret F hr hlk (by first | exact Or.inl rfl | exact Or.inr rfl | exact bz_01 _) d_M_kind_18 (ei_of (by rw [hb]; rfl) (by rw [hb]; rfl))
  ·
    have hx := hb
    obtain ⟨j, hj, rfl⟩ := wi_t (by decide) hb
    refine qv_iload_n F d_M_kind_9 2 rfl ?_
    refine qv_iconst F (nI 3) d_M_kind_10 ic_3 ?_
    refine i_M_71i F (c_M_in l X σ y (nI 3) 4 (by decide)) (by decide) (Nat.le_of_ble_eq_true rfl) d_M_kind_11 ?_
    refine qv_ifneB F d_M_kind_14 rfl (fun hb => ?_) (fun hb => ?_)
    ·
      have hy := hb
      obtain ⟨k, hk, rfl⟩ := wi_t (by decide) hb
      refine qv_aload_n F d_M_kind_19 0 rfl ?_
      refine g_M_7 F d_M_kind_20 ?_
      refine qv_iload_n F d_M_kind_23 1 rfl ?_
      refine qv_iload_n F d_M_kind_24 2 rfl ?_
      refine sv_29 F (by omega) d_M_kind_25 ?_
      refine qv_iconst F (nI 1) d_M_kind_26 ic_1 ?_
      exact qv_zret F hr hlk (by first | exact Or.inl rfl | exact Or.inr rfl | exact bz_01 _) d_M_kind_27 (ei_of (by rw [hx, hy]; rfl) (by rw [hx, hy, tn_nI (by omega), tn_nI (by omega)]; rfl))
    ·
      refine qv_iconst F (nI 0) d_M_kind_17 ic_0 ?_
      exact qv_zret F hr hlk (by first | exact Or.inl rfl | exact Or.inr rfl | exact bz_01 _) d_M_kind_18 (ei_of (by rw [hx, hb]; rfl) (by rw [hx, hb]; rfl))
set_option maxRecDepth 100000 in
set_option maxHeartbeats 4000000 in
theorem c_M_accept (l : Launch) (X : wX) (σ : sg) (x y : Int32) : mt_ l X y_M_accept w_M_accept 1 [.ref (adr X 28), .int x, .int y] σ (ei_ (nI (wi_ x 16 && wi_ y 16).toNat) (if (wi_ x 16 && wi_ y 16) = true then us σ 30 (tn_ x) (tn_ y) else σ)) := by
  refine mt_of (own := R_M) rfl pl_M (Nat.le_of_ble_eq_true rfl) ?_
  intro zp ze zs zm za zb zt zc F hr hlk
  refine qv_sub (L' := [(0, _), (1, _), (2, _)]) [0, 1, 2] rfl ?_
  refine qv_iload_n F d_M_accept_0 1 rfl ?_
  refine qv_bipush F (nI 15) d_M_accept_1 bic_15 ?_
  refine i_M_71i F (c_M_in l X σ x (nI 15) 16 (by decide)) (by decide) (Nat.le_of_ble_eq_true rfl) d_M_accept_3 ?_
  refine qv_ifeqB F d_M_accept_6 rfl (fun hb => ?_) (fun hb => ?_)
  ·
    refine qv_iconst F (nI 0) d_M_accept_18 ic_0 ?_
    exact qv_zret F hr hlk (by first | exact Or.inl rfl | exact Or.inr rfl | exact bz_01 _) d_M_accept_19 (ei_of (by rw [hb]; rfl) (by rw [hb]; rfl))
  ·
    have hx := hb
    obtain ⟨j, hj, rfl⟩ := wi_t (by decide) hb
    refine qv_iload_n F d_M_accept_9 2 rfl ?_
    refine qv_bipush F (nI 15) d_M_accept_10 bic_15 ?_
    refine i_M_71i F (c_M_in l X σ y (nI 15) 16 (by decide)) (by decide) (Nat.le_of_ble_eq_true rfl) d_M_accept_12 ?_
    refine qv_ifneB F d_M_accept_15 rfl (fun hb => ?_) (fun hb => ?_)
    ·
      have hy := hb
      obtain ⟨k, hk, rfl⟩ := wi_t (by decide) hb
      refine qv_aload_n F d_M_accept_20 0 rfl ?_
      refine g_M_13 F d_M_accept_21 ?_
      refine qv_iload_n F d_M_accept_24 1 rfl ?_
      refine qv_iload_n F d_M_accept_25 2 rfl ?_
      refine sv_30 F (by omega) d_M_accept_26 ?_
      refine qv_iconst F (nI 1) d_M_accept_27 ic_1 ?_
      exact qv_zret F hr hlk (by first | exact Or.inl rfl | exact Or.inr rfl | exact bz_01 _) d_M_accept_28 (ei_of (by rw [hx, hy]; rfl) (by rw [hx, hy, tn_nI (by omega), tn_nI (by omega)]; rfl))
    ·
      refine qv_iconst F (nI 0) d_M_accept_18 ic_0 ?_
      exact qv_zret F hr hlk (by first | exact Or.inl rfl | exact Or.inr rfl | exact bz_01 _) d_M_accept_19 (ei_of (by rw [hx, hb]; rfl) (by rw [hx, hb]; rfl))
def asM_ (σ : sg) (a v w f : Nat) : sg := us (us (us (us (us σ 31 (σ 28 2) a) 32 (σ 28 2) v) 33 (σ 28 2) w) 34 (σ 28 2) f) 28 2 (σ 28 2 + 1)
set_option maxRecDepth 100000 in
set_option maxHeartbeats 4000000 in
theorem c_M_statement (l : Launch) (X : wX) (σ : sg) (a v w f : Nat) (hs : σ 28 2 ≤ 40) : mt_ l X y_M_statement w_M_statement 0 [.ref (adr X 28), .int (nI a), .int (nI v), .int (nI w), .int (nI f)] σ (ei_ (if σ 28 2 < 40 then nI (σ 28 2 + 1) else -2) (if σ 28 2 < 40 then asM_ σ a v w f else σ)) := by
  refine mt_of (own := R_M) rfl pl_M (Nat.le_of_ble_eq_true rfl) ?_
  intro zp ze zs zm za zb zt zc F hr hlk
  refine qv_sub (L' := [(0, _), (1, _), (2, _), (3, _), (4, _)]) [0, 1, 2, 3, 4] rfl ?_
  refine qv_aload_n F d_M_statement_0 0 rfl ?_
  refine g_M_75 F d_M_statement_1 ?_
  refine qv_bipush F (nI 40) d_M_statement_4 bic_40 ?_
  refine qv_icmpne F d_M_statement_6 rfl (by omega) (by omega) (fun hb => ?_) (fun hb => ?_)
  ·
    have hb : σ 28 2 < 40 := by omega
    refine qv_aload_n F d_M_statement_12 0 rfl ?_
    refine g_M_16 F d_M_statement_13 ?_
    refine qv_aload_n F d_M_statement_16 0 rfl ?_
    refine g_M_75 F d_M_statement_17 ?_
    refine qv_iload_n F d_M_statement_20 1 rfl ?_
    refine sv_31 F hb d_M_statement_21 ?_
    refine qv_aload_n F d_M_statement_22 0 rfl ?_
    refine g_M_19 F d_M_statement_23 ?_
    refine qv_aload_n F d_M_statement_26 0 rfl ?_
    refine g_M_75 F d_M_statement_27 ?_
    refine qv_iload_n F d_M_statement_30 2 rfl ?_
    refine sv_32 F hb d_M_statement_31 ?_
    refine qv_aload_n F d_M_statement_32 0 rfl ?_
    refine g_M_22 F d_M_statement_33 ?_
    refine qv_aload_n F d_M_statement_36 0 rfl ?_
    refine g_M_75 F d_M_statement_37 ?_
    refine qv_iload_n F d_M_statement_40 3 rfl ?_
    refine sv_33 F hb d_M_statement_41 ?_
    refine qv_aload_n F d_M_statement_42 0 rfl ?_
    refine g_M_25 F d_M_statement_43 ?_
    refine qv_aload_n F d_M_statement_46 0 rfl ?_
    refine g_M_75 F d_M_statement_47 ?_
    refine qv_iload F d_M_statement_50 4 rfl ?_
    refine sv_34 F hb d_M_statement_52 ?_
    refine qv_aload_n F d_M_statement_53 0 rfl ?_
    refine qv_dup F d_M_statement_54 rfl ?_
    refine g_M_75 F d_M_statement_55 ?_
    refine qv_iconst F (nI 1) d_M_statement_58 ic_1 ?_
    refine qv_iadd F d_M_statement_59 ?_
    refine p_M_75 F d_M_statement_60 ?_
    refine qv_aload_n F d_M_statement_63 0 rfl ?_
    refine g_M_75 F d_M_statement_64 ?_
    rw [if_pos hb, if_pos hb]
    exact qv_iret F hr hlk d_M_statement_67 (ei_of rfl rfl)
  ·
    refine qv_bipush F (-2) d_M_statement_9 bic_m2 ?_
    rw [if_neg (by omega), if_neg (by omega)]
    exact qv_iret F hr hlk d_M_statement_11 (ei_of rfl rfl)
set_option maxRecDepth 100000 in
set_option maxHeartbeats 4000000 in
theorem c_M_together (l : Launch) (X : wX) (σ : sg) (x y : Int32) : mt_ l X y_M_together w_M_together 1 [.int x, .int y] σ (ei_ (nI (om_ x y).toNat) σ) := by
  refine mt_of (own := R_M) rfl pl_M (Nat.le_of_ble_eq_true rfl) ?_
  intro zp ze zs zm za zb zt zc F hr hlk
  refine qv_sub (L' := [(0, _), (1, _)]) [0, 1] rfl ?_
  refine qv_iload_n F d_M_together_0 0 rfl ?_
  refine qv_bipush F (nI 15) d_M_together_1 bic_15 ?_
  refine i_M_71i F (c_M_in l X σ x (nI 15) 16 (by decide)) (by decide) (Nat.le_of_ble_eq_true rfl) d_M_together_3 ?_
  refine qv_ifeqB F d_M_together_6 rfl (fun hb => ?_) (fun hb => ?_)
  ·
    refine qv_iconst F (nI 0) d_M_together_31 ic_0 ?_
    exact qv_zret F hr hlk (by first | exact Or.inl rfl | exact Or.inr rfl | exact bz_01 _) d_M_together_32 (ei_of (by unfold om_; rw [hb]; cases wi_ y 16 <;> rfl) rfl)
  ·
    have hx := hb
    refine qv_iload_n F d_M_together_9 1 rfl ?_
    refine qv_bipush F (nI 15) d_M_together_10 bic_15 ?_
    refine i_M_71i F (c_M_in l X σ y (nI 15) 16 (by decide)) (by decide) (Nat.le_of_ble_eq_true rfl) d_M_together_12 ?_
    refine qv_ifeqB F d_M_together_15 rfl (fun hb => ?_) (fun hb => ?_)
    ·
      refine qv_iconst F (nI 0) d_M_together_31 ic_0 ?_
      exact qv_zret F hr hlk (by first | exact Or.inl rfl | exact Or.inr rfl | exact bz_01 _) d_M_together_32 (ei_of (by unfold om_; rw [hb]; rfl) rfl)
    ·
      have hy := hb
      obtain ⟨j, hj, rfl⟩ := wi_t (by decide) hx
      obtain ⟨k, hk, rfl⟩ := wi_t (by decide) hy
      refine qv_iload_n F d_M_together_18 0 rfl ?_
      refine qv_iconst F (nI 4) d_M_together_19 ic_4 ?_
      refine qv_idiv F d_M_together_20 (by omega) (by decide) (by decide) ?_
      refine qv_iload_n F d_M_together_21 1 rfl ?_
      refine qv_iconst F (nI 4) d_M_together_22 ic_4 ?_
      refine qv_idiv F d_M_together_23 (by omega) (by decide) (by decide) ?_
      refine qv_icmpne F d_M_together_24 rfl (by omega) (by omega) (fun hb => ?_) (fun hb => ?_)
      ·
        refine qv_iconst F (nI 0) d_M_together_31 ic_0 ?_
        exact qv_zret F hr hlk (by first | exact Or.inl rfl | exact Or.inr rfl | exact bz_01 _) d_M_together_32 (ei_of (by unfold om_; rw [hx, hy, tn_nI (by omega), tn_nI (by omega), decide_eq_false hb]; rfl) rfl)
      ·
        refine qv_iconst F (nI 1) d_M_together_27 ic_1 ?_
        refine qv_goto F d_M_together_28 rfl ?_
        exact qv_zret F hr hlk (by first | exact Or.inl rfl | exact Or.inr rfl | exact bz_01 _) d_M_together_32 (ei_of (by unfold om_; rw [hx, hy, tn_nI (by omega), tn_nI (by omega), decide_eq_true hb]; rfl) rfl)
def snM_ (b : Bool) (σ : sg) (a v w f : Nat) : sg := if b = true then (if σ 28 2 < 40 then asM_ σ a v w f else σ) else σ
set_option maxRecDepth 100000 in
set_option maxHeartbeats 4000000 in
theorem c_M_make (l : Launch) (X : wX) (σ : sg) (x y : Int32) (hs : σ 28 2 ≤ 40) : mt_ l X y_M_make w_M_make 1 [.ref (adr X 28), .int x, .int y] σ (ei_ (an_ (wi_ x 16 && wi_ y 8) (σ 28 2)) (snM_ (wi_ x 16 && wi_ y 8) σ 0 (tn_ x) (tn_ y) 0)) := by
  refine mt_of (own := R_M) rfl pl_M (Nat.le_of_ble_eq_true rfl) ?_
  intro zp ze zs zm za zb zt zc F hr hlk
  refine qv_sub (L' := [(0, _), (1, _), (2, _)]) [0, 1, 2] rfl ?_
  refine qv_iload_n F d_M_make_0 1 rfl ?_
  refine qv_bipush F (nI 15) d_M_make_1 bic_15 ?_
  refine i_M_71i F (c_M_in l X σ x (nI 15) 16 (by decide)) (by decide) (Nat.le_of_ble_eq_true rfl) d_M_make_3 ?_
  refine qv_ifeqB F d_M_make_6 rfl (fun hb => ?_) (fun hb => ?_)
  ·
    refine qv_iconst F (-1) d_M_make_29 ic_m1 ?_
    exact qv_iret F hr hlk d_M_make_30 (ei_of (by rw [hb]; rfl) (by rw [hb]; rfl))
  ·
    have hx := hb
    obtain ⟨j, hj, rfl⟩ := wi_t (by decide) hb
    refine qv_iload_n F d_M_make_9 2 rfl ?_
    refine qv_bipush F (nI 7) d_M_make_10 bic_7 ?_
    refine i_M_71i F (c_M_in l X σ y (nI 7) 8 (by decide)) (by decide) (Nat.le_of_ble_eq_true rfl) d_M_make_12 ?_
    refine qv_ifeqB F d_M_make_15 rfl (fun hb => ?_) (fun hb => ?_)
    ·
      refine qv_iconst F (-1) d_M_make_29 ic_m1 ?_
      exact qv_iret F hr hlk d_M_make_30 (ei_of (by rw [hx, hb]; rfl) (by rw [hx, hb]; rfl))
    ·
      have hy := hb
      obtain ⟨k, hk, rfl⟩ := wi_t (by decide) hb
      refine qv_aload_n F d_M_make_18 0 rfl ?_
      refine qv_iconst F (nI 0) d_M_make_19 ic_0 ?_
      refine qv_iload_n F d_M_make_20 1 rfl ?_
      refine qv_iload_n F d_M_make_21 2 rfl ?_
      refine qv_iconst F (nI 0) d_M_make_22 ic_0 ?_
      refine i_M_79i F (c_M_statement l X σ 0 j k 0 hs) (by decide) (Nat.le_of_ble_eq_true rfl) d_M_make_23 ?_
      refine qv_goto F d_M_make_26 rfl ?_
      exact qv_iret F hr hlk d_M_make_30 (ei_of (by rw [hx, hy]; rfl) (by rw [hx, hy, tn_nI (by omega), tn_nI (by omega)]; rfl))
set_option maxRecDepth 100000 in
set_option maxHeartbeats 4000000 in
theorem c_M_copy (l : Launch) (X : wX) (σ : sg) (x y : Int32) (hs : σ 28 2 ≤ 40) : mt_ l X y_M_copy w_M_copy 2 [.ref (adr X 28), .int x, .int y] σ (ei_ (an_ (om_ x y) (σ 28 2)) (snM_ (om_ x y) σ 1 (tn_ x) (tn_ y) 0)) := by
  refine mt_of (own := R_M) rfl pl_M (Nat.le_of_ble_eq_true rfl) ?_
  intro zp ze zs zm za zb zt zc F hr hlk
  refine qv_sub (L' := [(0, _), (1, _), (2, _)]) [0, 1, 2] rfl ?_
  refine qv_iload_n F d_M_copy_0 1 rfl ?_
  refine qv_iload_n F d_M_copy_1 2 rfl ?_
  refine i_M_83i F (c_M_together l X σ x y) (by decide) (Nat.le_of_ble_eq_true rfl) d_M_copy_2 ?_
  refine qv_ifeqB F d_M_copy_5 rfl (fun hb => ?_) (fun hb => ?_)
  ·
    refine qv_iconst F (-1) d_M_copy_19 ic_m1 ?_
    exact qv_iret F hr hlk d_M_copy_20 (ei_of (by rw [hb]; rfl) (by rw [hb]; rfl))
  ·
    have hx := hb
    obtain ⟨j, k, hj, hk, rfl, rfl⟩ := om_t hx
    refine qv_aload_n F d_M_copy_8 0 rfl ?_
    refine qv_iconst F (nI 1) d_M_copy_9 ic_1 ?_
    refine qv_iload_n F d_M_copy_10 1 rfl ?_
    refine qv_iload_n F d_M_copy_11 2 rfl ?_
    refine qv_iconst F (nI 0) d_M_copy_12 ic_0 ?_
    refine i_M_79i F (c_M_statement l X σ 1 j k 0 hs) (by decide) (Nat.le_of_ble_eq_true rfl) d_M_copy_13 ?_
    refine qv_goto F d_M_copy_16 rfl ?_
    exact qv_iret F hr hlk d_M_copy_20 (ei_of (by rw [hx]; rfl) (by rw [hx, tn_nI (by omega), tn_nI (by omega)]; rfl))
set_option maxRecDepth 100000 in
set_option maxHeartbeats 4000000 in
theorem c_M_store (l : Launch) (X : wX) (σ : sg) (x f y : Int32) (hs : σ 28 2 ≤ 40) : mt_ l X y_M_store w_M_store 2 [.ref (adr X 28), .int x, .int f, .int y] σ (ei_ (an_ (om_ x y && wi_ f 2) (σ 28 2)) (snM_ (om_ x y && wi_ f 2) σ 2 (tn_ x) (tn_ y) (tn_ f))) := by
  refine mt_of (own := R_M) rfl pl_M (Nat.le_of_ble_eq_true rfl) ?_
  intro zp ze zs zm za zb zt zc F hr hlk
  refine qv_sub (L' := [(0, _), (1, _), (2, _), (3, _)]) [0, 1, 2, 3] rfl ?_
  refine qv_iload_n F d_M_store_0 1 rfl ?_
  refine qv_iload_n F d_M_store_1 3 rfl ?_
  refine i_M_83i F (c_M_together l X σ x y) (by decide) (Nat.le_of_ble_eq_true rfl) d_M_store_2 ?_
  refine qv_ifeqB F d_M_store_5 rfl (fun hb => ?_) (fun hb => ?_)
  ·
    refine qv_iconst F (-1) d_M_store_27 ic_m1 ?_
    exact qv_iret F hr hlk d_M_store_28 (ei_of (by rw [hb]; rfl) (by rw [hb]; rfl))
  ·
    have hx := hb
    obtain ⟨j, k, hj, hk, rfl, rfl⟩ := om_t hx
    refine qv_iload_n F d_M_store_8 2 rfl ?_
    refine qv_iconst F (nI 1) d_M_store_9 ic_1 ?_
    refine i_M_71i F (c_M_in l X σ f (nI 1) 2 (by decide)) (by decide) (Nat.le_of_ble_eq_true rfl) d_M_store_10 ?_
    refine qv_ifeqB F d_M_store_13 rfl (fun hb => ?_) (fun hb => ?_)
    ·
      refine qv_iconst F (-1) d_M_store_27 ic_m1 ?_
      exact qv_iret F hr hlk d_M_store_28 (ei_of (by rw [hx, hb]; rfl) (by rw [hx, hb]; rfl))
    ·
      have hf := hb
      obtain ⟨i, hi, rfl⟩ := wi_t (by decide) hb
      refine qv_aload_n F d_M_store_16 0 rfl ?_
      refine qv_iconst F (nI 2) d_M_store_17 ic_2 ?_
      refine qv_iload_n F d_M_store_18 1 rfl ?_
      refine qv_iload_n F d_M_store_19 3 rfl ?_
      refine qv_iload_n F d_M_store_20 2 rfl ?_
      refine i_M_79i F (c_M_statement l X σ 2 j k i hs) (by decide) (Nat.le_of_ble_eq_true rfl) d_M_store_21 ?_
      refine qv_goto F d_M_store_24 rfl ?_
      exact qv_iret F hr hlk d_M_store_28 (ei_of (by rw [hx, hf]; rfl) (by rw [hx, hf, tn_nI (by omega), tn_nI (by omega), tn_nI (by omega)]; rfl))
set_option maxRecDepth 100000 in
set_option maxHeartbeats 4000000 in
theorem c_M_load (l : Launch) (X : wX) (σ : sg) (x y f : Int32) (hs : σ 28 2 ≤ 40) : mt_ l X y_M_load w_M_load 2 [.ref (adr X 28), .int x, .int y, .int f] σ (ei_ (an_ (om_ x y && wi_ f 2) (σ 28 2)) (snM_ (om_ x y && wi_ f 2) σ 3 (tn_ x) (tn_ y) (tn_ f))) := by
  refine mt_of (own := R_M) rfl pl_M (Nat.le_of_ble_eq_true rfl) ?_
  intro zp ze zs zm za zb zt zc F hr hlk
  refine qv_sub (L' := [(0, _), (1, _), (2, _), (3, _)]) [0, 1, 2, 3] rfl ?_
  refine qv_iload_n F d_M_load_0 1 rfl ?_
  refine qv_iload_n F d_M_load_1 2 rfl ?_
  refine i_M_83i F (c_M_together l X σ x y) (by decide) (Nat.le_of_ble_eq_true rfl) d_M_load_2 ?_
  refine qv_ifeqB F d_M_load_5 rfl (fun hb => ?_) (fun hb => ?_)
  ·
    refine qv_iconst F (-1) d_M_load_27 ic_m1 ?_
    exact qv_iret F hr hlk d_M_load_28 (ei_of (by rw [hb]; rfl) (by rw [hb]; rfl))
  ·
    have hx := hb
    obtain ⟨j, k, hj, hk, rfl, rfl⟩ := om_t hx
    refine qv_iload_n F d_M_load_8 3 rfl ?_
    refine qv_iconst F (nI 1) d_M_load_9 ic_1 ?_
    refine i_M_71i F (c_M_in l X σ f (nI 1) 2 (by decide)) (by decide) (Nat.le_of_ble_eq_true rfl) d_M_load_10 ?_
    refine qv_ifeqB F d_M_load_13 rfl (fun hb => ?_) (fun hb => ?_)
    ·
      refine qv_iconst F (-1) d_M_load_27 ic_m1 ?_
      exact qv_iret F hr hlk d_M_load_28 (ei_of (by rw [hx, hb]; rfl) (by rw [hx, hb]; rfl))
    ·
      have hf := hb
      obtain ⟨i, hi, rfl⟩ := wi_t (by decide) hb
      refine qv_aload_n F d_M_load_16 0 rfl ?_
      refine qv_iconst F (nI 3) d_M_load_17 ic_3 ?_
      refine qv_iload_n F d_M_load_18 1 rfl ?_
      refine qv_iload_n F d_M_load_19 2 rfl ?_
      refine qv_iload_n F d_M_load_20 3 rfl ?_
      refine i_M_79i F (c_M_statement l X σ 3 j k i hs) (by decide) (Nat.le_of_ble_eq_true rfl) d_M_load_21 ?_
      refine qv_goto F d_M_load_24 rfl ?_
      exact qv_iret F hr hlk d_M_load_28 (ei_of (by rw [hx, hf]; rfl) (by rw [hx, hf, tn_nI (by omega), tn_nI (by omega), tn_nI (by omega)]; rfl))
def acM_ (σ : sg) (a b : Nat) : sg := us (us (us σ 35 (σ 28 7) a) 36 (σ 28 7) b) 28 7 (σ 28 7 + 1)
def csM_ (b : Bool) (σ : sg) (v w : Nat) : sg := if b = true then (if σ 28 7 < 8 then acM_ σ v w else σ) else σ
set_option maxRecDepth 100000 in
set_option maxHeartbeats 4000000 in
theorem c_M_call (l : Launch) (X : wX) (σ : sg) (x y : Int32) (hs : σ 28 7 ≤ 8) : mt_ l X y_M_call w_M_call 1 [.ref (adr X 28), .int x, .int y] σ (ei_ (cn_ (wi_ x 4 && wi_ y 4) (σ 28 7)) (csM_ (wi_ x 4 && wi_ y 4) σ (tn_ x) (tn_ y))) := by
  refine mt_of (own := R_M) rfl pl_M (Nat.le_of_ble_eq_true rfl) ?_
  intro zp ze zs zm za zb zt zc F hr hlk
  refine qv_sub (L' := [(0, _), (1, _), (2, _)]) [0, 1, 2] rfl ?_
  refine qv_iload_n F d_M_call_0 1 rfl ?_
  refine qv_iconst F (nI 3) d_M_call_1 ic_3 ?_
  refine i_M_71i F (c_M_in l X σ x (nI 3) 4 (by decide)) (by decide) (Nat.le_of_ble_eq_true rfl) d_M_call_2 ?_
  refine qv_ifeqB F d_M_call_5 rfl (fun hb => ?_) (fun hb => ?_)
  ·
    refine qv_iconst F (-1) d_M_call_16 ic_m1 ?_
    exact qv_iret F hr hlk d_M_call_17 (ei_of (by rw [hb]; rfl) (by rw [hb]; rfl))
  ·
    have hx := hb
    obtain ⟨j, hj, rfl⟩ := wi_t (by decide) hb
    refine qv_iload_n F d_M_call_8 2 rfl ?_
    refine qv_iconst F (nI 3) d_M_call_9 ic_3 ?_
    refine i_M_71i F (c_M_in l X σ y (nI 3) 4 (by decide)) (by decide) (Nat.le_of_ble_eq_true rfl) d_M_call_10 ?_
    refine qv_ifneB F d_M_call_13 rfl (fun hb => ?_) (fun hb => ?_)
    ·
      have hy := hb
      obtain ⟨k, hk, rfl⟩ := wi_t (by decide) hb
      unfold cn_ csM_
      rw [hx, hy, tn_nI (by omega), tn_nI (by omega), if_pos (show (true && true) = true from rfl), if_pos (show (true && true) = true from rfl)]
      refine qv_aload_n F d_M_call_18 0 rfl ?_
      refine g_M_86 F d_M_call_19 ?_
      refine qv_bipush F (nI 8) d_M_call_22 bic_8 ?_
      refine qv_icmpne F d_M_call_24 rfl (by omega) (by omega) (fun hb => ?_) (fun hb => ?_)
      ·
        have hb : σ 28 7 < 8 := by omega
        rw [if_pos hb, if_pos hb]
        refine qv_aload_n F d_M_call_30 0 rfl ?_
        refine g_M_28 F d_M_call_31 ?_
        refine qv_aload_n F d_M_call_34 0 rfl ?_
        refine g_M_86 F d_M_call_35 ?_
        refine qv_iload_n F d_M_call_38 1 rfl ?_
        refine sv_35 F hb d_M_call_39 ?_
        refine qv_aload_n F d_M_call_40 0 rfl ?_
        refine g_M_31 F d_M_call_41 ?_
        refine qv_aload_n F d_M_call_44 0 rfl ?_
        refine g_M_86 F d_M_call_45 ?_
        refine qv_iload_n F d_M_call_48 2 rfl ?_
        refine sv_36 F hb d_M_call_49 ?_
        refine qv_aload_n F d_M_call_50 0 rfl ?_
        refine qv_dup F d_M_call_51 rfl ?_
        refine g_M_86 F d_M_call_52 ?_
        refine qv_iconst F (nI 1) d_M_call_55 ic_1 ?_
        refine qv_iadd F d_M_call_56 ?_
        refine p_M_86 F d_M_call_57 ?_
        refine qv_aload_n F d_M_call_60 0 rfl ?_
        refine g_M_86 F d_M_call_61 ?_
        refine qv_iconst F (nI 1) d_M_call_64 ic_1 ?_
        refine qv_isub F d_M_call_65 (by show 1 ≤ σ 28 7 + 1; omega) ?_
        exact qv_iret F hr hlk d_M_call_66 (ei_of rfl rfl)
      ·
        rw [if_neg (by omega), if_neg (by omega)]
        refine qv_bipush F (-2) d_M_call_27 bic_m2 ?_
        exact qv_iret F hr hlk d_M_call_29 (ei_of rfl rfl)
    ·
      refine qv_iconst F (-1) d_M_call_16 ic_m1 ?_
      exact qv_iret F hr hlk d_M_call_17 (ei_of (by rw [hx, hb]; rfl) (by rw [hx, hb]; rfl))
set_option maxRecDepth 100000 in
set_option maxHeartbeats 4000000 in
theorem c_M_order (l : Launch) (X : wX) (σ : sg) (x : Int32) : mt_ l X y_M_order w_M_order 1 [.ref (adr X 28), .int x] σ (ei_ (nI (wi_ x 6).toNat) (if wi_ x 6 = true then us σ 28 22 (tn_ x) else σ)) := by
  refine mt_of (own := R_M) rfl pl_M (Nat.le_of_ble_eq_true rfl) ?_
  intro zp ze zs zm za zb zt zc F hr hlk
  refine qv_sub (L' := [(0, _), (1, _)]) [0, 1] rfl ?_
  refine qv_iload_n F d_M_order_0 1 rfl ?_
  refine qv_iconst F (nI 5) d_M_order_1 ic_5 ?_
  refine i_M_71i F (c_M_in l X σ x (nI 5) 6 (by decide)) (by decide) (Nat.le_of_ble_eq_true rfl) d_M_order_2 ?_
  refine qv_ifneB F d_M_order_5 rfl (fun hb => ?_) (fun hb => ?_)
  ·
    have hx := hb
    obtain ⟨j, hj, rfl⟩ := wi_t (by decide) hb
    refine qv_aload_n F d_M_order_10 0 rfl ?_
    refine qv_iload_n F d_M_order_11 1 rfl ?_
    refine p_M_139 F d_M_order_12 ?_
    refine qv_iconst F (nI 1) d_M_order_15 ic_1 ?_
    exact qv_zret F hr hlk (by first | exact Or.inl rfl | exact Or.inr rfl | exact bz_01 _) d_M_order_16 (ei_of (by rw [hx]; rfl) (by rw [hx, tn_nI (by omega)]; rfl))
  ·
    refine qv_iconst F (nI 0) d_M_order_8 ic_0 ?_
    exact qv_zret F hr hlk (by first | exact Or.inl rfl | exact Or.inr rfl | exact bz_01 _) d_M_order_9 (ei_of (by rw [hb]; rfl) (by rw [hb]; rfl))
set_option maxRecDepth 100000 in
set_option maxHeartbeats 4000000 in
theorem c_M_contexts (l : Launch) (X : wX) (σ : sg) (x : Int32) : mt_ l X y_M_contexts w_M_contexts 1 [.ref (adr X 28), .int x] σ (ei_ (if wi_ x 4 = true then nI (σ 43 (tn_ x)) else -1) σ) := by
  refine mt_of (own := R_M) rfl pl_M (Nat.le_of_ble_eq_true rfl) ?_
  intro zp ze zs zm za zb zt zc F hr hlk
  refine qv_sub (L' := [(0, _), (1, _)]) [0, 1] rfl ?_
  refine qv_iload_n F d_M_contexts_0 1 rfl ?_
  refine qv_iconst F (nI 3) d_M_contexts_1 ic_3 ?_
  refine i_M_71i F (c_M_in l X σ x (nI 3) 4 (by decide)) (by decide) (Nat.le_of_ble_eq_true rfl) d_M_contexts_2 ?_
  refine qv_ifeqB F d_M_contexts_5 rfl (fun hb => ?_) (fun hb => ?_)
  ·
    refine qv_iconst F (-1) d_M_contexts_17 ic_m1 ?_
    exact qv_iret F hr hlk d_M_contexts_18 (ei_of (by rw [hb]; rfl) rfl)
  ·
    have hx := hb
    obtain ⟨j, hj, rfl⟩ := wi_t (by decide) hb
    refine qv_aload_n F d_M_contexts_8 0 rfl ?_
    refine g_M_53 F d_M_contexts_9 ?_
    refine qv_iload_n F d_M_contexts_12 1 rfl ?_
    refine ld_43 F (by omega) d_M_contexts_13 ?_
    refine qv_goto F d_M_contexts_14 rfl ?_
    exact qv_iret F hr hlk d_M_contexts_18 (ei_of (by rw [hx, tn_nI (by omega)]; rfl) rfl)
set_option maxRecDepth 100000 in
set_option maxHeartbeats 4000000 in
theorem c_M_holds (l : Launch) (X : wX) (σ : sg) (x y : Int32) : mt_ l X y_M_holds w_M_holds 1 [.ref (adr X 28), .int x, .int y] σ (ei_ (if (wi_ x 8 && wi_ y 2) = true then nI (σ 47 (tn_ x * 2 + tn_ y)) else nI 0) σ) := by
  refine mt_of (own := R_M) rfl pl_M (Nat.le_of_ble_eq_true rfl) ?_
  intro zp ze zs zm za zb zt zc F hr hlk
  refine qv_sub (L' := [(0, _), (1, _), (2, _)]) [0, 1, 2] rfl ?_
  refine qv_iload_n F d_M_holds_0 1 rfl ?_
  refine qv_bipush F (nI 7) d_M_holds_1 bic_7 ?_
  refine i_M_71i F (c_M_in l X σ x (nI 7) 8 (by decide)) (by decide) (Nat.le_of_ble_eq_true rfl) d_M_holds_3 ?_
  refine qv_ifeqB F d_M_holds_6 rfl (fun hb => ?_) (fun hb => ?_)
  ·
    refine qv_iconst F (nI 0) d_M_holds_30 ic_0 ?_
    exact qv_iret F hr hlk d_M_holds_31 (ei_of (by rw [hb]; rfl) rfl)
  ·
    have hx := hb
    obtain ⟨j, hj, rfl⟩ := wi_t (by decide) hb
    refine qv_iload_n F d_M_holds_9 2 rfl ?_
    refine qv_iconst F (nI 1) d_M_holds_10 ic_1 ?_
    refine i_M_71i F (c_M_in l X σ y (nI 1) 2 (by decide)) (by decide) (Nat.le_of_ble_eq_true rfl) d_M_holds_11 ?_
    refine qv_ifeqB F d_M_holds_14 rfl (fun hb => ?_) (fun hb => ?_)
    ·
      refine qv_iconst F (nI 0) d_M_holds_30 ic_0 ?_
      exact qv_iret F hr hlk d_M_holds_31 (ei_of (by rw [hx, hb]; rfl) rfl)
    ·
      have hy := hb
      obtain ⟨k, hk, rfl⟩ := wi_t (by decide) hb
      refine qv_aload_n F d_M_holds_17 0 rfl ?_
      refine g_M_65 F d_M_holds_18 ?_
      refine qv_iconst F (nI 2) d_M_holds_21 ic_2 ?_
      refine qv_iload_n F d_M_holds_22 1 rfl ?_
      refine qv_imul F d_M_holds_23 ?_
      refine qv_iload_n F d_M_holds_24 2 rfl ?_
      refine qv_iadd F d_M_holds_25 ?_
      refine ld_47 F (by omega) d_M_holds_26 ?_
      refine qv_goto F d_M_holds_27 rfl ?_
      exact qv_iret F hr hlk d_M_holds_31 (ei_of (by rw [hx, hy, tn_nI (by omega), tn_nI (by omega), Nat.mul_comm j 2]; rfl) rfl)
set_option maxRecDepth 100000 in
set_option maxHeartbeats 4000000 in
theorem c_M_isContext (l : Launch) (X : wX) (σ : sg) (x y : Int32) (hm : ∀ k, σ 43 k ≤ 8) : mt_ l X y_M_isContext w_M_isContext 1 [.ref (adr X 28), .int x, .int y] σ (ei_ (nI (iv_ (σ 43) x y).toNat) σ) := by
  refine mt_of (own := R_M) rfl pl_M (Nat.le_of_ble_eq_true rfl) ?_
  intro zp ze zs zm za zb zt zc F hr hlk
  refine qv_sub (L' := [(0, _), (1, _), (2, _)]) [0, 1, 2] rfl ?_
  refine qv_iload_n F d_M_isContext_0 2 rfl ?_
  refine qv_bipush F (nI 15) d_M_isContext_1 bic_15 ?_
  refine i_M_71i F (c_M_in l X σ y (nI 15) 16 (by decide)) (by decide) (Nat.le_of_ble_eq_true rfl) d_M_isContext_3 ?_
  refine qv_ifeqB F d_M_isContext_6 rfl (fun hb => ?_) (fun hb => ?_)
  ·
    refine qv_iconst F (nI 0) d_M_isContext_30 ic_0 ?_
    exact qv_zret F hr hlk (by first | exact Or.inl rfl | exact Or.inr rfl | exact bz_01 _) d_M_isContext_31 (ei_of (by unfold iv_; rw [hb]; rfl) rfl)
  ·
    have hy := hb
    obtain ⟨k, hk, rfl⟩ := wi_t (by decide) hb
    have q := hm (k / 4)
    refine qv_iload_n F d_M_isContext_9 1 rfl ?_
    refine qv_aload_n F d_M_isContext_10 0 rfl ?_
    refine g_M_53 F d_M_isContext_11 ?_
    refine qv_iload_n F d_M_isContext_14 2 rfl ?_
    refine qv_iconst F (nI 4) d_M_isContext_15 ic_4 ?_
    refine qv_idiv F d_M_isContext_16 (by omega) (by decide) (by decide) ?_
    refine ld_43 F (by omega) d_M_isContext_17 ?_
    refine qv_iconst F (nI 1) d_M_isContext_18 ic_1 ?_
    refine qv_isubI F d_M_isContext_19 ?_
    refine i_M_71i F (c_M_in l X σ x (nI (σ 43 (k / 4)) - nI 1) (σ 43 (k / 4)) (by rw [pk_sub_toInt (by omega) (by decide)]; rfl)) (by decide) (Nat.le_of_ble_eq_true rfl) d_M_isContext_20 ?_
    refine qv_ifeqB F d_M_isContext_23 rfl (fun hb => ?_) (fun hb => ?_)
    ·
      refine qv_iconst F (nI 0) d_M_isContext_30 ic_0 ?_
      exact qv_zret F hr hlk (by first | exact Or.inl rfl | exact Or.inr rfl | exact bz_01 _) d_M_isContext_31 (ei_of (by unfold iv_; rw [hy, tn_nI (by omega), hb]; rfl) rfl)
    ·
      refine qv_iconst F (nI 1) d_M_isContext_26 ic_1 ?_
      refine qv_goto F d_M_isContext_27 rfl ?_
      exact qv_zret F hr hlk (by first | exact Or.inl rfl | exact Or.inr rfl | exact bz_01 _) d_M_isContext_31 (ei_of (by unfold iv_; rw [hy, tn_nI (by omega), hb]; rfl) rfl)
set_option maxRecDepth 100000 in
set_option maxHeartbeats 4000000 in
theorem c_M_points (l : Launch) (X : wX) (σ : sg) (x y : Int32) (hm : ∀ k, σ 43 k ≤ 8) : mt_ l X y_M_points w_M_points 2 [.ref (adr X 28), .int x, .int y] σ (ei_ (if iv_ (σ 43) x y = true then nI (σ 46 (tn_ x * 16 + tn_ y)) else nI 0) σ) := by
  refine mt_of (own := R_M) rfl pl_M (Nat.le_of_ble_eq_true rfl) ?_
  intro zp ze zs zm za zb zt zc F hr hlk
  refine qv_sub (L' := [(0, _), (1, _), (2, _)]) [0, 1, 2] rfl ?_
  refine qv_aload_n F d_M_points_0 0 rfl ?_
  refine qv_iload_n F d_M_points_1 1 rfl ?_
  refine qv_iload_n F d_M_points_2 2 rfl ?_
  refine i_M_136i F (c_M_isContext l X σ x y hm) (by decide) (Nat.le_of_ble_eq_true rfl) d_M_points_3 ?_
  refine qv_ifeqB F d_M_points_6 rfl (fun hb => ?_) (fun hb => ?_)
  ·
    refine qv_iconst F (nI 0) d_M_points_23 ic_0 ?_
    exact qv_iret F hr hlk d_M_points_24 (ei_of (by rw [hb]; rfl) rfl)
  ·
    have hx := hb
    obtain ⟨j, k, hj, hk, rfl, rfl⟩ := iv_t hm hx
    refine qv_aload_n F d_M_points_9 0 rfl ?_
    refine g_M_62 F d_M_points_10 ?_
    refine qv_bipush F (nI 16) d_M_points_13 bic_16 ?_
    refine qv_iload_n F d_M_points_15 1 rfl ?_
    refine qv_imul F d_M_points_16 ?_
    refine qv_iload_n F d_M_points_17 2 rfl ?_
    refine qv_iadd F d_M_points_18 ?_
    refine ld_46 F (by omega) d_M_points_19 ?_
    refine qv_goto F d_M_points_20 rfl ?_
    exact qv_iret F hr hlk d_M_points_24 (ei_of (by rw [hx, tn_nI (by omega), tn_nI (by omega), Nat.mul_comm j 16]; rfl) rfl)
set_option maxRecDepth 100000 in
set_option maxHeartbeats 4000000 in
theorem c_M_alias (l : Launch) (X : wX) (σ : sg) (x y z w : Int32) (hm : ∀ k, σ 43 k ≤ 8) (h21 : ∀ k, σ 46 k < 256) : mt_ l X y_M_alias w_M_alias 2 [.ref (adr X 28), .int x, .int y, .int z, .int w] σ (ei_ (nI (iv_ (σ 43) x y && (iv_ (σ 43) z w && !decide (σ 46 (tn_ x * 16 + tn_ y) &&& σ 46 (tn_ z * 16 + tn_ w) = 0))).toNat) σ) := by
  refine mt_of (own := R_M) rfl pl_M (Nat.le_of_ble_eq_true rfl) ?_
  intro zp ze zs zm za zb zt zc F hr hlk
  refine qv_sub (L' := [(0, _), (1, _), (2, _), (3, _), (4, _)]) [0, 1, 2, 3, 4] rfl ?_
  refine qv_aload_n F d_M_alias_0 0 rfl ?_
  refine qv_iload_n F d_M_alias_1 1 rfl ?_
  refine qv_iload_n F d_M_alias_2 2 rfl ?_
  refine i_M_136i F (c_M_isContext l X σ x y hm) (by decide) (Nat.le_of_ble_eq_true rfl) d_M_alias_3 ?_
  refine qv_ifeqB F d_M_alias_6 rfl (fun hb => ?_) (fun hb => ?_)
  ·
    refine qv_iconst F (nI 0) d_M_alias_50 ic_0 ?_
    exact qv_zret F hr hlk (by first | exact Or.inl rfl | exact Or.inr rfl | exact bz_01 _) d_M_alias_51 (ei_of (by rw [hb]; rfl) rfl)
  ·
    have hx := hb
    refine qv_aload_n F d_M_alias_9 0 rfl ?_
    refine qv_iload_n F d_M_alias_10 3 rfl ?_
    refine qv_iload F d_M_alias_11 4 rfl ?_
    refine i_M_136i F (c_M_isContext l X σ z w hm) (by decide) (Nat.le_of_ble_eq_true rfl) d_M_alias_13 ?_
    refine qv_ifeqB F d_M_alias_16 rfl (fun hb => ?_) (fun hb => ?_)
    ·
      refine qv_iconst F (nI 0) d_M_alias_50 ic_0 ?_
      exact qv_zret F hr hlk (by first | exact Or.inl rfl | exact Or.inr rfl | exact bz_01 _) d_M_alias_51 (ei_of (by rw [hx, hb]; rfl) rfl)
    ·
      have hz := hb
      obtain ⟨j, k, hj, hk, rfl, rfl⟩ := iv_t hm hx
      obtain ⟨a, b, ha, hb1, rfl, rfl⟩ := iv_t hm hz
      have q := and_256 (a := σ 46 (16 * j + k)) (h21 (16 * a + b))
      refine qv_aload_n F d_M_alias_19 0 rfl ?_
      refine g_M_62 F d_M_alias_20 ?_
      refine qv_bipush F (nI 16) d_M_alias_23 bic_16 ?_
      refine qv_iload_n F d_M_alias_25 1 rfl ?_
      refine qv_imul F d_M_alias_26 ?_
      refine qv_iload_n F d_M_alias_27 2 rfl ?_
      refine qv_iadd F d_M_alias_28 ?_
      refine ld_46 F (by omega) d_M_alias_29 ?_
      refine qv_aload_n F d_M_alias_30 0 rfl ?_
      refine g_M_62 F d_M_alias_31 ?_
      refine qv_bipush F (nI 16) d_M_alias_34 bic_16 ?_
      refine qv_iload_n F d_M_alias_36 3 rfl ?_
      refine qv_imul F d_M_alias_37 ?_
      refine qv_iload F d_M_alias_38 4 rfl ?_
      refine qv_iadd F d_M_alias_40 ?_
      refine ld_46 F (by omega) d_M_alias_41 ?_
      refine qv_iand F d_M_alias_42 ?_
      refine qv_ifeq F d_M_alias_43 rfl (by omega) (fun hb => ?_) (fun hb => ?_)
      ·
        refine qv_iconst F (nI 0) d_M_alias_50 ic_0 ?_
        exact qv_zret F hr hlk (by first | exact Or.inl rfl | exact Or.inr rfl | exact bz_01 _) d_M_alias_51 (ei_of (by rw [hx, hz, tn_nI (by omega), tn_nI (by omega), tn_nI (by omega), tn_nI (by omega), Nat.mul_comm j 16, Nat.mul_comm a 16, decide_eq_true hb]; rfl) rfl)
      ·
        refine qv_iconst F (nI 1) d_M_alias_46 ic_1 ?_
        refine qv_goto F d_M_alias_47 rfl ?_
        exact qv_zret F hr hlk (by first | exact Or.inl rfl | exact Or.inr rfl | exact bz_01 _) d_M_alias_51 (ei_of (by rw [hx, hz, tn_nI (by omega), tn_nI (by omega), tn_nI (by omega), tn_nI (by omega), Nat.mul_comm j 16, Nat.mul_comm a 16, decide_eq_false hb]; rfl) rfl)
set_option maxRecDepth 100000 in
set_option maxHeartbeats 4000000 in
theorem c_M_context (l : Launch) (X : wX) (σ : sg) (x y : Int32) (hn : σ 28 17 ≤ 8) (h11 : ∀ k, k < σ 28 17 → σ 45 k < 4) (hm : ∀ k, σ 43 k ≤ 8) : mt_ l X y_M_context w_M_context 1 [.ref (adr X 28), .int x, .int y] σ (ei_ (cx_ (σ 43) (σ 44) (σ 45) (σ 28 17) x y) σ) := by
  refine mt_of (own := R_M) rfl pl_M (Nat.le_of_ble_eq_true rfl) ?_
  intro zp ze zs zm za zb zt zc F hr hlk
  refine qv_sub (L' := [(0, _), (1, _), (2, _)]) [0, 1, 2] rfl ?_
  refine qv_iload_n F d_M_context_0 1 rfl ?_
  refine qv_aload_n F d_M_context_1 0 rfl ?_
  refine g_M_127 F d_M_context_2 ?_
  refine qv_iconst F (nI 1) d_M_context_5 ic_1 ?_
  refine qv_isubI F d_M_context_6 ?_
  refine i_M_71i F (c_M_in l X σ x (nI (σ 28 17) - nI 1) (σ 28 17) (by rw [pk_sub_toInt (by omega) (by decide)]; rfl)) (by decide) (Nat.le_of_ble_eq_true rfl) d_M_context_7 ?_
  refine qv_ifeqB F d_M_context_10 rfl (fun hb => ?_) (fun hb => ?_)
  ·
    refine qv_iconst F (-1) d_M_context_44 ic_m1 ?_
    exact qv_iret F hr hlk d_M_context_45 (ei_of (by unfold cx_; rw [hb]; rfl) rfl)
  ·
    have hx := hb
    obtain ⟨j, hj, rfl⟩ := wi_t (by omega) hb
    have q11 := h11 j hj
    have q17 := hm (σ 45 j)
    refine qv_iload_n F d_M_context_13 2 rfl ?_
    refine qv_aload_n F d_M_context_14 0 rfl ?_
    refine g_M_53 F d_M_context_15 ?_
    refine qv_aload_n F d_M_context_18 0 rfl ?_
    refine g_M_59 F d_M_context_19 ?_
    refine qv_iload_n F d_M_context_22 1 rfl ?_
    refine ld_45 F (by omega) d_M_context_23 ?_
    refine ld_43 F (by omega) d_M_context_24 ?_
    refine qv_iconst F (nI 1) d_M_context_25 ic_1 ?_
    refine qv_isubI F d_M_context_26 ?_
    refine i_M_71i F (c_M_in l X σ y (nI (σ 43 (σ 45 j)) - nI 1) (σ 43 (σ 45 j)) (by rw [pk_sub_toInt (by omega) (by decide)]; rfl)) (by decide) (Nat.le_of_ble_eq_true rfl) d_M_context_27 ?_
    refine qv_ifeqB F d_M_context_30 rfl (fun hb => ?_) (fun hb => ?_)
    ·
      refine qv_iconst F (-1) d_M_context_44 ic_m1 ?_
      exact qv_iret F hr hlk d_M_context_45 (ei_of (by unfold cx_; rw [hx, tn_nI (by omega), hb]; rfl) rfl)
    ·
      have hy := hb
      obtain ⟨k, hk, rfl⟩ := wi_t (by omega) hb
      refine qv_aload_n F d_M_context_33 0 rfl ?_
      refine g_M_56 F d_M_context_34 ?_
      refine qv_iload_n F d_M_context_37 1 rfl ?_
      refine ld_44 F (by omega) d_M_context_38 ?_
      refine qv_iload_n F d_M_context_39 2 rfl ?_
      refine qv_iadd F d_M_context_40 ?_
      refine qv_goto F d_M_context_41 rfl ?_
      exact qv_iret F hr hlk d_M_context_45 (ei_of (by unfold cx_; rw [hx, tn_nI (by omega), hy, tn_nI (by omega)]; rfl) rfl)

