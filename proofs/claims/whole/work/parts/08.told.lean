/-! what has been told -/
def as_ (σ : sg) (a v w f : Nat) : sg := us (us (us (us (us σ 7 (σ 1 2) a) 8 (σ 1 2) v) 9 (σ 1 2) w) 10 (σ 1 2) f) 1 2 (σ 1 2 + 1)
set_option maxRecDepth 100000 in
set_option maxHeartbeats 4000000 in
theorem c_G_addStatement (l : Launch) (X : wX) (σ : sg) (a v w f : Nat) (hs : σ 1 2 ≤ 40) : mt_ l X y_G_addStatement w_G_addStatement 0 [.ref (adr X 1), .int (nI a), .int (nI v), .int (nI w), .int (nI f)] σ (ei_ (if σ 1 2 < 40 then nI (σ 1 2 + 1) else -2) (if σ 1 2 < 40 then as_ σ a v w f else σ)) := by
  refine mt_of (own := R_G) rfl pl_G (Nat.le_of_ble_eq_true rfl) ?_
  intro zp ze zs zm za zb zt zc F hr hlk
  refine qv_sub (L' := [(0, _), (1, _), (2, _), (3, _), (4, _)]) [0, 1, 2, 3, 4] rfl ?_
  refine qv_aload_n F d_G_addStatement_0 0 rfl ?_
  refine g_G_18 F d_G_addStatement_1 ?_
  refine qv_bipush F (nI 40) d_G_addStatement_4 bic_40 ?_
  refine qv_icmplt F d_G_addStatement_6 rfl (by omega) (by omega) (fun hb => ?_) (fun hb => ?_)
  ·
    refine qv_aload_n F d_G_addStatement_12 0 rfl ?_
    refine g_G_22 F d_G_addStatement_13 ?_
    refine qv_aload_n F d_G_addStatement_16 0 rfl ?_
    refine g_G_18 F d_G_addStatement_17 ?_
    refine qv_iload_n F d_G_addStatement_20 1 rfl ?_
    refine sv_7 F hb d_G_addStatement_21 ?_
    refine qv_aload_n F d_G_addStatement_22 0 rfl ?_
    refine g_G_25 F d_G_addStatement_23 ?_
    refine qv_aload_n F d_G_addStatement_26 0 rfl ?_
    refine g_G_18 F d_G_addStatement_27 ?_
    refine qv_iload_n F d_G_addStatement_30 2 rfl ?_
    refine sv_8 F hb d_G_addStatement_31 ?_
    refine qv_aload_n F d_G_addStatement_32 0 rfl ?_
    refine g_G_28 F d_G_addStatement_33 ?_
    refine qv_aload_n F d_G_addStatement_36 0 rfl ?_
    refine g_G_18 F d_G_addStatement_37 ?_
    refine qv_iload_n F d_G_addStatement_40 3 rfl ?_
    refine sv_9 F hb d_G_addStatement_41 ?_
    refine qv_aload_n F d_G_addStatement_42 0 rfl ?_
    refine g_G_31 F d_G_addStatement_43 ?_
    refine qv_aload_n F d_G_addStatement_46 0 rfl ?_
    refine g_G_18 F d_G_addStatement_47 ?_
    refine qv_iload F d_G_addStatement_50 4 rfl ?_
    refine sv_10 F hb d_G_addStatement_52 ?_
    refine qv_aload_n F d_G_addStatement_53 0 rfl ?_
    refine qv_dup F d_G_addStatement_54 rfl ?_
    refine g_G_18 F d_G_addStatement_55 ?_
    refine qv_iconst F (nI 1) d_G_addStatement_58 ic_1 ?_
    refine qv_iadd F d_G_addStatement_59 ?_
    refine p_G_18 F d_G_addStatement_60 ?_
    refine qv_aload_n F d_G_addStatement_63 0 rfl ?_
    refine g_G_18 F d_G_addStatement_64 ?_
    rw [if_pos hb, if_pos hb]
    exact qv_iret F hr hlk d_G_addStatement_67 (ei_of rfl rfl)
  ·
    refine qv_bipush F (-2) d_G_addStatement_9 bic_m2 ?_
    rw [if_neg (by omega), if_neg (by omega)]
    exact qv_iret F hr hlk d_G_addStatement_11 (ei_of rfl rfl)
def ac_ (σ : sg) (a b : Nat) : sg := us (us (us σ 11 (σ 1 7) a) 12 (σ 1 7) b) 1 7 (σ 1 7 + 1)
set_option maxRecDepth 100000 in
set_option maxHeartbeats 4000000 in
theorem c_G_addCall (l : Launch) (X : wX) (σ : sg) (a b : Nat) (hs : σ 1 7 ≤ 8) : mt_ l X y_G_addCall w_G_addCall 0 [.ref (adr X 1), .int (nI a), .int (nI b)] σ (ei_ (if σ 1 7 < 8 then nI (σ 1 7) else -2) (if σ 1 7 < 8 then ac_ σ a b else σ)) := by
  refine mt_of (own := R_G) rfl pl_G (Nat.le_of_ble_eq_true rfl) ?_
  intro zp ze zs zm za zb zt zc F hr hlk
  refine qv_sub (L' := [(0, _), (1, _), (2, _)]) [0, 1, 2] rfl ?_
  refine qv_aload_n F d_G_addCall_0 0 rfl ?_
  refine g_G_34 F d_G_addCall_1 ?_
  refine qv_bipush F (nI 8) d_G_addCall_4 bic_8 ?_
  refine qv_icmplt F d_G_addCall_6 rfl (by omega) (by omega) (fun hb => ?_) (fun hb => ?_)
  ·
    refine qv_aload_n F d_G_addCall_12 0 rfl ?_
    refine g_G_37 F d_G_addCall_13 ?_
    refine qv_aload_n F d_G_addCall_16 0 rfl ?_
    refine g_G_34 F d_G_addCall_17 ?_
    refine qv_iload_n F d_G_addCall_20 1 rfl ?_
    refine sv_11 F hb d_G_addCall_21 ?_
    refine qv_aload_n F d_G_addCall_22 0 rfl ?_
    refine g_G_40 F d_G_addCall_23 ?_
    refine qv_aload_n F d_G_addCall_26 0 rfl ?_
    refine g_G_34 F d_G_addCall_27 ?_
    refine qv_iload_n F d_G_addCall_30 2 rfl ?_
    refine sv_12 F hb d_G_addCall_31 ?_
    refine qv_aload_n F d_G_addCall_32 0 rfl ?_
    refine qv_dup F d_G_addCall_33 rfl ?_
    refine g_G_34 F d_G_addCall_34 ?_
    refine qv_iconst F (nI 1) d_G_addCall_37 ic_1 ?_
    refine qv_iadd F d_G_addCall_38 ?_
    refine p_G_34 F d_G_addCall_39 ?_
    refine qv_aload_n F d_G_addCall_42 0 rfl ?_
    refine g_G_34 F d_G_addCall_43 ?_
    refine qv_iconst F (nI 1) d_G_addCall_46 ic_1 ?_
    refine qv_isub F d_G_addCall_47 (by show 1 ≤ σ 1 7 + 1; omega) ?_
    rw [if_pos hb, if_pos hb]
    exact qv_iret F hr hlk d_G_addCall_48 (ei_of rfl rfl)
  ·
    refine qv_bipush F (-2) d_G_addCall_9 bic_m2 ?_
    rw [if_neg (by omega), if_neg (by omega)]
    exact qv_iret F hr hlk d_G_addCall_11 (ei_of rfl rfl)
/-- may a pass be told -/
def of_ (x : Int32) (n : Nat) : Bool := wi_ x 16 && decide (tn_ x / 4 = n)
def mp_ (t : sg) (n : Nat) (x y z : Int32) (b : Bool) : Bool := wi_ x n && (if b = true then of_ y (t 11 (tn_ x)) && of_ z (t 12 (tn_ x)) else of_ y (t 12 (tn_ x)) && of_ z (t 11 (tn_ x)))
set_option maxRecDepth 100000 in
set_option maxHeartbeats 4000000 in
theorem c_G_mayPass (l : Launch) (X : wX) (σ : sg) (x y z : Int32) (b : Bool) (hs : σ 1 7 ≤ 8) (h11 : ∀ k, σ 11 k < 4) (h12 : ∀ k, σ 12 k < 4) : mt_ l X y_G_mayPass w_G_mayPass 2 [.ref (adr X 1), .int x, .int y, .int z, .int (nI b.toNat)] σ (ei_ (nI (mp_ σ (σ 1 7) x y z b).toNat) σ) := by
  refine mt_of (own := R_G) rfl pl_G (Nat.le_of_ble_eq_true rfl) ?_
  intro zp ze zs zm za zb zt zc F hr hlk
  refine qv_sub (L' := [(0, _), (1, _), (2, _), (3, _), (4, _)]) [0, 1, 2, 3, 4] rfl ?_
  refine qv_iload_n F d_G_mayPass_0 1 rfl ?_
  refine qv_aload_n F d_G_mayPass_1 0 rfl ?_
  refine g_G_34 F d_G_mayPass_2 ?_
  refine i_G_62i F (c_P_isWithin l X σ x (σ 1 7) (by omega)) (by decide) (Nat.le_of_ble_eq_true rfl) d_G_mayPass_5 ?_
  refine qv_ifneB F d_G_mayPass_8 rfl (fun hb => ?_) (fun hb => ?_)
  ·
    have hx := hb
    obtain ⟨j, hj, rfl⟩ := wi_t (by omega) hb
    have e : tn_ (nI j) = j := tn_nI (by omega)
    have q1 := h11 j
    have q2 := h12 j
    refine qv_iload F d_G_mayPass_13 4 rfl ?_
    refine qv_ifeqB F d_G_mayPass_15 rfl (fun hb => ?_) (fun hb => ?_)
    ·
      subst hb
      refine qv_iload_n F d_G_mayPass_50 2 rfl ?_
      refine qv_aload_n F d_G_mayPass_51 0 rfl ?_
      refine g_G_40 F d_G_mayPass_52 ?_
      refine qv_iload_n F d_G_mayPass_55 1 rfl ?_
      refine ld_12 F (by omega) d_G_mayPass_56 ?_
      refine i_G_66i F (c_P_isOfMethod l X σ y (σ 12 j) (by omega)) (by decide) (Nat.le_of_ble_eq_true rfl) d_G_mayPass_57 ?_
      refine qv_ifeqB F d_G_mayPass_60 rfl (fun hb => ?_) (fun hb => ?_)
      ·
        refine qv_iconst F (nI 0) d_G_mayPass_80 ic_0 ?_
        exact qv_zret F hr hlk (by first | exact Or.inl rfl | exact Or.inr rfl | exact bz_01 _) d_G_mayPass_81 (ei_of (by unfold mp_ of_; rw [hx, e, hb]; rfl) rfl)
      ·
        have hy := hb
        refine qv_iload_n F d_G_mayPass_63 3 rfl ?_
        refine qv_aload_n F d_G_mayPass_64 0 rfl ?_
        refine g_G_37 F d_G_mayPass_65 ?_
        refine qv_iload_n F d_G_mayPass_68 1 rfl ?_
        refine ld_11 F (by omega) d_G_mayPass_69 ?_
        refine i_G_66i F (c_P_isOfMethod l X σ z (σ 11 j) (by omega)) (by decide) (Nat.le_of_ble_eq_true rfl) d_G_mayPass_70 ?_
        refine qv_ifeqB F d_G_mayPass_73 rfl (fun hb => ?_) (fun hb => ?_)
        ·
          refine qv_iconst F (nI 0) d_G_mayPass_80 ic_0 ?_
          exact qv_zret F hr hlk (by first | exact Or.inl rfl | exact Or.inr rfl | exact bz_01 _) d_G_mayPass_81 (ei_of (by unfold mp_ of_; rw [hx, e, hy, hb]; rfl) rfl)
        ·
          refine qv_iconst F (nI 1) d_G_mayPass_76 ic_1 ?_
          refine qv_goto F d_G_mayPass_77 rfl ?_
          exact qv_zret F hr hlk (by first | exact Or.inl rfl | exact Or.inr rfl | exact bz_01 _) d_G_mayPass_81 (ei_of (by unfold mp_ of_; rw [hx, e, hy, hb]; rfl) rfl)
    ·
      subst hb
      refine qv_iload_n F d_G_mayPass_18 2 rfl ?_
      refine qv_aload_n F d_G_mayPass_19 0 rfl ?_
      refine g_G_37 F d_G_mayPass_20 ?_
      refine qv_iload_n F d_G_mayPass_23 1 rfl ?_
      refine ld_11 F (by omega) d_G_mayPass_24 ?_
      refine i_G_66i F (c_P_isOfMethod l X σ y (σ 11 j) (by omega)) (by decide) (Nat.le_of_ble_eq_true rfl) d_G_mayPass_25 ?_
      refine qv_ifeqB F d_G_mayPass_28 rfl (fun hb => ?_) (fun hb => ?_)
      ·
        refine qv_iconst F (nI 0) d_G_mayPass_48 ic_0 ?_
        exact qv_zret F hr hlk (by first | exact Or.inl rfl | exact Or.inr rfl | exact bz_01 _) d_G_mayPass_49 (ei_of (by unfold mp_ of_; rw [hx, e, hb]; rfl) rfl)
      ·
        have hy := hb
        refine qv_iload_n F d_G_mayPass_31 3 rfl ?_
        refine qv_aload_n F d_G_mayPass_32 0 rfl ?_
        refine g_G_40 F d_G_mayPass_33 ?_
        refine qv_iload_n F d_G_mayPass_36 1 rfl ?_
        refine ld_12 F (by omega) d_G_mayPass_37 ?_
        refine i_G_66i F (c_P_isOfMethod l X σ z (σ 12 j) (by omega)) (by decide) (Nat.le_of_ble_eq_true rfl) d_G_mayPass_38 ?_
        refine qv_ifeqB F d_G_mayPass_41 rfl (fun hb => ?_) (fun hb => ?_)
        ·
          refine qv_iconst F (nI 0) d_G_mayPass_48 ic_0 ?_
          exact qv_zret F hr hlk (by first | exact Or.inl rfl | exact Or.inr rfl | exact bz_01 _) d_G_mayPass_49 (ei_of (by unfold mp_ of_; rw [hx, e, hy, hb]; rfl) rfl)
        ·
          refine qv_iconst F (nI 1) d_G_mayPass_44 ic_1 ?_
          refine qv_goto F d_G_mayPass_45 rfl ?_
          exact qv_zret F hr hlk (by first | exact Or.inl rfl | exact Or.inr rfl | exact bz_01 _) d_G_mayPass_49 (ei_of (by unfold mp_ of_; rw [hx, e, hy, hb]; rfl) rfl)
  ·
    refine qv_iconst F (nI 0) d_G_mayPass_11 ic_0 ?_
    exact qv_zret F hr hlk (by first | exact Or.inl rfl | exact Or.inr rfl | exact bz_01 _) d_G_mayPass_12 (ei_of (by unfold mp_; rw [hb]; rfl) rfl)
def ap_ (σ : sg) (k v w b : Nat) : sg := us (us (us (us σ 14 (k * 4 + σ 13 k) v) 15 (k * 4 + σ 13 k) w) 16 (k * 4 + σ 13 k) b) 13 k (σ 13 k + 1)
set_option maxRecDepth 100000 in
set_option maxHeartbeats 4000000 in
theorem c_G_addPass (l : Launch) (X : wX) (σ : sg) (k v w : Nat) (b : Bool) (hk : k < 8) (hs : σ 13 k ≤ 4) : mt_ l X y_G_addPass w_G_addPass 0 [.ref (adr X 1), .int (nI k), .int (nI v), .int (nI w), .int (nI b.toNat)] σ (ei_ (if σ 13 k < 4 then nI (σ 13 k + 1) else -2) (if σ 13 k < 4 then ap_ σ k v w b.toNat else σ)) := by
  refine mt_of (own := R_G) rfl pl_G (Nat.le_of_ble_eq_true rfl) ?_
  intro zp ze zs zm za zb zt zc F hr hlk
  refine qv_sub (L' := [(0, _), (1, _), (2, _), (3, _), (4, _)]) [0, 1, 2, 3, 4] rfl ?_
  refine qv_aload_n F d_G_addPass_0 0 rfl ?_
  refine g_G_43 F d_G_addPass_1 ?_
  refine qv_iload_n F d_G_addPass_4 1 rfl ?_
  refine ld_13 F (by omega) d_G_addPass_5 ?_
  refine qv_iconst F (nI 4) d_G_addPass_6 ic_4 ?_
  refine qv_icmplt F d_G_addPass_7 rfl (by omega) (by omega) (fun hb => ?_) (fun hb => ?_)
  ·
    have hbz : b.toNat = 0 ∨ b.toNat = 1 := by cases b <;> decide
    refine qv_iload_n F d_G_addPass_13 1 rfl ?_
    refine qv_iconst F (nI 4) d_G_addPass_14 ic_4 ?_
    refine qv_imul F d_G_addPass_15 ?_
    refine qv_aload_n F d_G_addPass_16 0 rfl ?_
    refine g_G_43 F d_G_addPass_17 ?_
    refine qv_iload_n F d_G_addPass_20 1 rfl ?_
    refine ld_13 F (by omega) d_G_addPass_21 ?_
    refine qv_iadd F d_G_addPass_22 ?_
    refine qv_istore (L' := [(5, _), (0, _), (1, _), (2, _), (3, _), (4, _)]) F d_G_addPass_23 (by decide) rfl ?_
    refine qv_aload_n F d_G_addPass_25 1 rfl ?_
    refine g_G_46 F d_G_addPass_26 ?_
    refine qv_iload F d_G_addPass_29 0 rfl ?_
    refine qv_iload_n F d_G_addPass_31 3 rfl ?_
    refine sv_14 F (by omega) d_G_addPass_32 ?_
    refine qv_aload_n F d_G_addPass_33 1 rfl ?_
    refine g_G_49 F d_G_addPass_34 ?_
    refine qv_iload F d_G_addPass_37 0 rfl ?_
    refine qv_iload_n F d_G_addPass_39 4 rfl ?_
    refine sv_15 F (by omega) d_G_addPass_40 ?_
    refine qv_aload_n F d_G_addPass_41 1 rfl ?_
    refine g_G_52 F d_G_addPass_42 ?_
    refine qv_iload F d_G_addPass_45 0 rfl ?_
    refine qv_iload F d_G_addPass_47 5 rfl ?_
    refine sv_16 F (by omega) hbz d_G_addPass_49 ?_
    refine qv_aload_n F d_G_addPass_50 1 rfl ?_
    refine g_G_43 F d_G_addPass_51 ?_
    refine qv_iload_n F d_G_addPass_54 2 rfl ?_
    refine qv_dup2 F d_G_addPass_55 rfl rfl ?_
    refine ld_13 F (by omega) d_G_addPass_56 ?_
    refine qv_iconst F (nI 1) d_G_addPass_57 ic_1 ?_
    refine qv_iadd F d_G_addPass_58 ?_
    refine sv_13 F (by omega) d_G_addPass_59 ?_
    refine qv_aload_n F d_G_addPass_60 1 rfl ?_
    refine g_G_43 F d_G_addPass_61 ?_
    refine qv_iload_n F d_G_addPass_64 2 rfl ?_
    refine ld_13 F (by omega) d_G_addPass_65 ?_
    rw [if_pos hb, if_pos hb]
    exact qv_iret F hr hlk d_G_addPass_66 (ei_of (by rw [us_eq, up_eq]; rfl) rfl)
  ·
    refine qv_bipush F (-2) d_G_addPass_10 bic_m2 ?_
    rw [if_neg (by omega), if_neg (by omega)]
    exact qv_iret F hr hlk d_G_addPass_12 (ei_of rfl rfl)
set_option maxRecDepth 100000 in
set_option maxHeartbeats 4000000 in
theorem c_G_countPasses (l : Launch) (X : wX) (σ : sg) (hs : σ 1 7 ≤ 8) (h13 : ∀ k, σ 13 k ≤ 4) : mt_ l X y_G_countPasses w_G_countPasses 0 [.ref (adr X 1)] σ (ei_ (nI (sm_ (σ 13) (σ 1 7))) σ) := by
  refine mt_of (own := R_G) rfl pl_G (Nat.le_of_ble_eq_true rfl) ?_
  intro zp ze zs zm za zb zt zc F hr hlk
  refine qv_sub (L' := [(0, _)]) [0] rfl ?_
  refine qv_iconst F (nI 0) d_G_countPasses_0 ic_0 ?_
  refine qv_istore_n (L' := [(1, _), (0, _)]) F d_G_countPasses_1 (by decide) rfl ?_
  refine qv_iconst F (nI 0) d_G_countPasses_2 ic_0 ?_
  refine qv_istore_n (L' := [(2, _), (1, _), (0, _)]) F d_G_countPasses_3 (by decide) rfl ?_
  have lp := lu_up (fun i (_ : Unit) => vv_ zp l ze (rr_ 0) zs zm za zb zt zc (MQ zb (mq_ X (ei_ (nI (sm_ (σ 13) (σ 1 7))) σ)) za zs 0 0 (aw_ X)) X 3 [(2, .int (nI i)), (1, .int (nI (sm_ (σ 13) i))), (0, .ref (adr X 1))] σ 4 []) (fun _ _ => True) (σ 1 7) ?_ ?_ 0 () (Nat.zero_le _) trivial
  · exact lp
  · intro _ _
    refine qv_iload_n F d_G_countPasses_4 0 rfl ?_
    refine qv_aload_n F d_G_countPasses_5 2 rfl ?_
    refine g_G_34 F d_G_countPasses_6 ?_
    refine qv_icmpge F d_G_countPasses_9 rfl (by omega) (by omega) (fun hb => ?_) (fun hb => ?_)
    ·
      refine qv_iload_n F d_G_countPasses_27 1 rfl ?_
      exact qv_iret F hr hlk d_G_countPasses_28 (ei_of rfl rfl)
    ·
      omega
  · intro i _ hi _ ih
    refine qv_iload_n F d_G_countPasses_4 0 rfl ?_
    refine qv_aload_n F d_G_countPasses_5 2 rfl ?_
    refine g_G_34 F d_G_countPasses_6 ?_
    refine qv_icmpge F d_G_countPasses_9 rfl (by omega) (by omega) (fun hb => ?_) (fun hb => ?_)
    ·
      omega
    ·
      refine qv_iload_n F d_G_countPasses_12 1 rfl ?_
      refine qv_aload_n F d_G_countPasses_13 2 rfl ?_
      refine g_G_43 F d_G_countPasses_14 ?_
      refine qv_iload_n F d_G_countPasses_17 0 rfl ?_
      refine ld_13 F (by omega) d_G_countPasses_18 ?_
      refine qv_iadd F d_G_countPasses_19 ?_
      refine qv_istore_n (L' := [(1, _), (2, _), (0, _)]) F d_G_countPasses_20 (by decide) rfl ?_
      refine qv_sub (L' := [(2, _), (1, _), (0, _)]) [1, 0, 2] rfl ?_
      refine qv_iinc (L' := [(2, _), (1, _), (0, _)]) F _ d_G_countPasses_21 0 rfl (ii_1 _) (by decide) rfl ?_
      refine qv_goto F d_G_countPasses_24 rfl ?_
      exact ih () trivial

