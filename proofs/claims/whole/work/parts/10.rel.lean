/-! relations: small methods -/
set_option maxRecDepth 100000 in
set_option maxHeartbeats 4000000 in
theorem c_T_addTo (l : Launch) (X : wX) (σ : sg) (q n i x : Nat) (hq : dz_[q]? = some (.inl (false, n))) (hnq : n < 2 ^ 31) (hi : i < n) (h1 : σ q i < 256) (h2 : x < 256) : mt_ l X y_T_addTo w_T_addTo 0 [.ref (adr X 3), .ref (adr X q), .int (nI i), .int (nI x)] σ (ev_ (if σ q i ||| x = σ q i then σ else us (us σ q i (σ q i ||| x)) 3 3 1)) := by
  refine mt_of (own := R_T) rfl pl_T (Nat.le_of_ble_eq_true rfl) ?_
  intro zp ze zs zm za zb zt zc F hr hlk
  refine qv_sub (L' := [(0, _), (1, _), (2, _), (3, _)]) [0, 1, 2, 3] rfl ?_
  have h3 := or_256 h1 h2
  refine qv_aload_n F d_T_addTo_0 1 rfl ?_
  refine qv_iload_n F d_T_addTo_1 2 rfl ?_
  refine qv_iald F q hq hi hnq d_T_addTo_2 ?_
  refine qv_iload_n F d_T_addTo_3 3 rfl ?_
  refine qv_ior F d_T_addTo_4 ?_
  refine qv_istore (L' := [(4, _), (0, _), (1, _), (2, _), (3, _)]) F d_T_addTo_5 (by decide) rfl ?_
  refine qv_iload F d_T_addTo_7 0 rfl ?_
  refine qv_aload_n F d_T_addTo_9 2 rfl ?_
  refine qv_iload_n F d_T_addTo_10 3 rfl ?_
  refine qv_iald F q hq hi hnq d_T_addTo_11 ?_
  refine qv_icmpeq F d_T_addTo_12 rfl (by omega) (by omega) (fun hb => ?_) (fun hb => ?_)
  ·
    rw [if_pos hb]
    exact qv_ret F hr hlk d_T_addTo_25 (ev_of rfl)
  ·
    rw [if_neg hb]
    refine qv_aload_n F d_T_addTo_15 2 rfl ?_
    refine qv_iload_n F d_T_addTo_16 3 rfl ?_
    refine qv_iload F d_T_addTo_17 0 rfl ?_
    refine qv_iast F q hq hi hnq d_T_addTo_19 ?_
    refine qv_aload_n F d_T_addTo_20 1 rfl ?_
    refine qv_iconst F (nI 1) d_T_addTo_21 ic_1 ?_
    refine p_T_21 F (Or.inr rfl) d_T_addTo_22 ?_
    exact qv_ret F hr hlk d_T_addTo_25 (ev_of rfl)
set_option maxRecDepth 100000 in
set_option maxHeartbeats 4000000 in
theorem c_T_addPointed (l : Launch) (X : wX) (σ : sg) (c v x : Nat) (hc : c * 16 + v < 128) (hv : v < 16) (h1 : ∀ k, σ 21 k < 256) (h2 : ∀ k, σ 23 k < 256) : mt_ l X y_T_addPointed w_T_addPointed 1 [.ref (adr X 3), .int (nI c), .int (nI v), .int (nI x)] σ (ev_ (sr_ σ (ad_ (σ 23) c v x (rg_ σ)))) := by
  refine mt_of (own := R_T) rfl pl_T (Nat.le_of_ble_eq_true rfl) ?_
  intro zp ze zs zm za zb zt zc F hr hlk
  refine qv_sub (L' := [(0, _), (1, _), (2, _), (3, _)]) [0, 1, 2, 3] rfl ?_
  refine qv_aload_n F d_T_addPointed_0 0 rfl ?_
  refine qv_aload_n F d_T_addPointed_1 0 rfl ?_
  refine g_T_11 F d_T_addPointed_2 ?_
  refine qv_iload_n F d_T_addPointed_5 1 rfl ?_
  refine qv_bipush F (nI 16) d_T_addPointed_6 bic_16 ?_
  refine qv_imul F d_T_addPointed_8 ?_
  refine qv_iload_n F d_T_addPointed_9 2 rfl ?_
  refine qv_iadd F d_T_addPointed_10 ?_
  refine qv_iload_n F d_T_addPointed_11 3 rfl ?_
  refine qv_aload_n F d_T_addPointed_12 0 rfl ?_
  refine g_T_18 F d_T_addPointed_13 ?_
  refine qv_iload_n F d_T_addPointed_16 2 rfl ?_
  refine ld_23 F (by omega) d_T_addPointed_17 ?_
  refine qv_iand F d_T_addPointed_18 ?_
  refine i_T_132v F (c_T_addTo l X σ 21 128 (c * 16 + v) (x &&& σ 23 v) rfl (by decide) hc (h1 _) (and_256 (h2 v))) (by decide) (Nat.le_of_ble_eq_true rfl) d_T_addPointed_19 ?_
  exact qv_ret F hr hlk d_T_addPointed_22 (ev_of (at_21 σ _ _))
set_option maxRecDepth 100000 in
set_option maxHeartbeats 4000000 in
theorem c_T_addHeld (l : Launch) (X : wX) (σ : sg) (set f x : Nat) (hset : set < 2 ^ 31) (hf : f < 2) (hx : x < 256) (h1 : B_ (rg_ σ)) : mt_ l X y_T_addHeld w_T_addHeld 1 [.ref (adr X 3), .int (nI set), .int (nI f), .int (nI x)] σ (ev_ (sr_ σ (hs_ set f x 8 (rg_ σ)))) := by
  refine mt_of (own := R_T) rfl pl_T (Nat.le_of_ble_eq_true rfl) ?_
  intro zp ze zs zm za zb zt zc F hr hlk
  refine qv_sub (L' := [(0, _), (1, _), (2, _), (3, _)]) [0, 1, 2, 3] rfl ?_
  refine qv_iconst F (nI 0) d_T_addHeld_0 ic_0 ?_
  refine qv_istore (L' := [(4, _), (0, _), (1, _), (2, _), (3, _)]) F d_T_addHeld_1 (by decide) rfl ?_
  have lp := lu_up (fun i (_ : Unit) => vv_ zp l ze (rr_ 1) zs zm za zb zt zc (MQ zb (mq_ X (ev_ (sr_ σ (hs_ set f x 8 (rg_ σ))))) za zs 0 0 (aw_ X)) X 5 [(4, .int (nI i)), (0, .ref (adr X 3)), (1, .int (nI set)), (2, .int (nI f)), (3, .int (nI x))] (sr_ σ (hs_ set f x i (rg_ σ))) 3 []) (fun _ _ => True) 8 ?_ ?_ 0 () (Nat.zero_le _) trivial
  · exact qv_st (sr_rg σ).symm lp
  · intro _ _
    refine qv_iload F d_T_addHeld_3 0 rfl ?_
    refine qv_bipush F (nI 8) d_T_addHeld_5 bic_8 ?_
    refine qv_icmpge F d_T_addHeld_7 rfl (by decide) (by decide) (fun hb => ?_) (fun hb => ?_)
    ·
      exact qv_ret F hr hlk d_T_addHeld_40 (ev_of rfl)
    ·
      exact absurd hb (by decide)
  · intro i _ hi _ ih
    have hB := hs_B (set := set) (f := f) hx i _ h1
    have e : hs_ set f x (i + 1) (rg_ σ) = if set.testBit i = true then h1_ f x i (hs_ set f x i (rg_ σ)) else hs_ set f x i (rg_ σ) := rfl
    refine qv_iload F d_T_addHeld_3 0 rfl ?_
    refine qv_bipush F (nI 8) d_T_addHeld_5 bic_8 ?_
    refine qv_icmpge F d_T_addHeld_7 rfl (by omega) (by omega) (fun hb => ?_) (fun hb => ?_)
    ·
      omega
    ·
      refine qv_iload_n F d_T_addHeld_10 2 rfl ?_
      refine qv_iload F d_T_addHeld_11 0 rfl ?_
      refine i_T_60i F (c_P_hasBit l X _ set i hset (by omega)) (by decide) (Nat.le_of_ble_eq_true rfl) d_T_addHeld_13 ?_
      refine qv_ifeqB F d_T_addHeld_16 rfl (fun hb => ?_) (fun hb => ?_)
      ·
        rw [hb] at e
        have ih := ih () trivial
        rw [e] at ih
        refine qv_iinc (L' := [(4, _), (0, _), (1, _), (2, _), (3, _)]) F _ d_T_addHeld_34 0 rfl (ii_1 _) (by decide) rfl ?_
        refine qv_goto F d_T_addHeld_37 rfl ?_
        exact ih
      ·
        rw [hb] at e
        have ih := ih () trivial
        rw [e] at ih
        refine qv_aload_n F d_T_addHeld_19 1 rfl ?_
        refine qv_aload_n F d_T_addHeld_20 1 rfl ?_
        refine g_T_15 F d_T_addHeld_21 ?_
        refine qv_iload F d_T_addHeld_24 0 rfl ?_
        refine qv_iconst F (nI 2) d_T_addHeld_26 ic_2 ?_
        refine qv_imul F d_T_addHeld_27 ?_
        refine qv_iload_n F d_T_addHeld_28 3 rfl ?_
        refine qv_iadd F d_T_addHeld_29 ?_
        refine qv_iload_n F d_T_addHeld_30 4 rfl ?_
        refine i_T_132v F (c_T_addTo l X _ 22 16 (i * 2 + f) x rfl (by decide) (by omega) (hB.2 _) hx) (by decide) (Nat.le_of_ble_eq_true rfl) d_T_addHeld_31 ?_
        rw [at_22, sr_sr]
        refine qv_iinc (L' := [(4, _), (0, _), (1, _), (2, _), (3, _)]) F _ d_T_addHeld_34 0 rfl (ii_1 _) (by decide) rfl ?_
        refine qv_goto F d_T_addHeld_37 rfl ?_
        exact ih
set_option maxRecDepth 100000 in
set_option maxHeartbeats 4000000 in
theorem c_T_heldInAny (l : Launch) (X : wX) (σ : sg) (set f : Nat) (hset : set < 2 ^ 31) (hf : f < 2) : mt_ l X y_T_heldInAny w_T_heldInAny 1 [.ref (adr X 3), .int (nI set), .int (nI f)] σ (ei_ (nI (ha_ (σ 22) set f 8)) σ) := by
  refine mt_of (own := R_T) rfl pl_T (Nat.le_of_ble_eq_true rfl) ?_
  intro zp ze zs zm za zb zt zc F hr hlk
  refine qv_sub (L' := [(0, _), (1, _), (2, _)]) [0, 1, 2] rfl ?_
  refine qv_iconst F (nI 0) d_T_heldInAny_0 ic_0 ?_
  refine qv_istore_n (L' := [(3, _), (0, _), (1, _), (2, _)]) F d_T_heldInAny_1 (by decide) rfl ?_
  refine qv_iconst F (nI 0) d_T_heldInAny_2 ic_0 ?_
  refine qv_istore (L' := [(4, _), (3, _), (0, _), (1, _), (2, _)]) F d_T_heldInAny_3 (by decide) rfl ?_
  have lp := lu_up (fun i (_ : Unit) => vv_ zp l ze (rr_ 1) zs zm za zb zt zc (MQ zb (mq_ X (ei_ (nI (ha_ (σ 22) set f 8)) σ)) za zs 0 0 (aw_ X)) X 5 [(4, .int (nI i)), (3, .int (nI (ha_ (σ 22) set f i))), (0, .ref (adr X 3)), (1, .int (nI set)), (2, .int (nI f))] σ 5 []) (fun _ _ => True) 8 ?_ ?_ 0 () (Nat.zero_le _) trivial
  · exact lp
  · intro _ _
    refine qv_iload F d_T_heldInAny_5 0 rfl ?_
    refine qv_bipush F (nI 8) d_T_heldInAny_7 bic_8 ?_
    refine qv_icmpge F d_T_heldInAny_9 rfl (by decide) (by decide) (fun hb => ?_) (fun hb => ?_)
    ·
      refine qv_iload_n F d_T_heldInAny_37 1 rfl ?_
      exact qv_iret F hr hlk d_T_heldInAny_38 (ei_of rfl rfl)
    ·
      exact absurd hb (by decide)
  · intro i _ hi _ ih
    have e : ha_ (σ 22) set f (i + 1) = ha_ (σ 22) set f i ||| (if set.testBit i = true then σ 22 (i * 2 + f) else 0) := rfl
    have ih := ih () trivial
    rw [e] at ih
    refine qv_iload F d_T_heldInAny_5 0 rfl ?_
    refine qv_bipush F (nI 8) d_T_heldInAny_7 bic_8 ?_
    refine qv_icmpge F d_T_heldInAny_9 rfl (by omega) (by omega) (fun hb => ?_) (fun hb => ?_)
    ·
      omega
    ·
      refine qv_iload_n F d_T_heldInAny_12 3 rfl ?_
      refine qv_iload F d_T_heldInAny_13 0 rfl ?_
      refine i_T_60i F (c_P_hasBit l X _ set i hset (by omega)) (by decide) (Nat.le_of_ble_eq_true rfl) d_T_heldInAny_15 ?_
      refine qv_ifeqB F d_T_heldInAny_18 rfl (fun hb => ?_) (fun hb => ?_)
      ·
        rw [hb, if_neg (by decide), Nat.or_zero] at ih
        refine qv_iinc (L' := [(4, _), (3, _), (0, _), (1, _), (2, _)]) F _ d_T_heldInAny_31 0 rfl (ii_1 _) (by decide) rfl ?_
        refine qv_goto F d_T_heldInAny_34 rfl ?_
        exact ih
      ·
        rw [hb, if_pos rfl] at ih
        refine qv_iload_n F d_T_heldInAny_21 1 rfl ?_
        refine qv_aload_n F d_T_heldInAny_22 2 rfl ?_
        refine qv_iload F d_T_heldInAny_23 0 rfl ?_
        refine qv_iload_n F d_T_heldInAny_25 4 rfl ?_
        refine i_T_136i F (c_T_heldIn l X σ i f (by omega)) (by decide) (Nat.le_of_ble_eq_true rfl) d_T_heldInAny_26 ?_
        refine qv_ior F d_T_heldInAny_29 ?_
        refine qv_istore_n (L' := [(3, _), (4, _), (0, _), (1, _), (2, _)]) F d_T_heldInAny_30 (by decide) rfl ?_
        refine qv_sub (L' := [(4, _), (3, _), (0, _), (1, _), (2, _)]) [1, 0, 2, 3, 4] rfl ?_
        refine qv_iinc (L' := [(4, _), (3, _), (0, _), (1, _), (2, _)]) F _ d_T_heldInAny_31 0 rfl (ii_1 _) (by decide) rfl ?_
        refine qv_goto F d_T_heldInAny_34 rfl ?_
        exact ih
set_option maxRecDepth 100000 in
set_option maxHeartbeats 4000000 in
theorem c_T_findWelcome (l : Launch) (X : wX) (σ : sg) (h5 : ∀ k, σ 5 k < 4) (h6 : ∀ k, σ 6 k < 16) : mt_ l X y_T_findWelcome w_T_findWelcome 1 [.ref (adr X 3), .ref (adr X 1)] σ (ev_ (ua σ 23 (ft_ σ))) := by
  refine mt_of (own := R_T) rfl pl_T (Nat.le_of_ble_eq_true rfl) ?_
  intro zp ze zs zm za zb zt zc F hr hlk
  refine qv_sub (L' := [(0, _), (1, _)]) [0, 1] rfl ?_
  refine qv_iconst F (nI 0) d_T_findWelcome_0 ic_0 ?_
  refine qv_istore_n (L' := [(2, _), (0, _), (1, _)]) F d_T_findWelcome_1 (by decide) rfl ?_
  have lp := lu_up (fun i (g : Nat → Nat) => vv_ zp l ze (rr_ 1) zs zm za zb zt zc (MQ zb (mq_ X (ev_ (ua σ 23 (ft_ σ)))) za zs 0 0 (aw_ X)) X 5 [(2, .int (nI i)), (0, .ref (adr X 3)), (1, .ref (adr X 1))] (ua σ 23 g) 2 []) (fun i g => ∀ k, k < i → g k = ft_ σ k) 16 ?_ ?_ 0 (σ 23) (Nat.zero_le _) (fun k hk => by omega)
  · exact qv_st (ua_id σ 23).symm lp
  · intro g hg
    refine qv_iload_n F d_T_findWelcome_2 0 rfl ?_
    refine qv_bipush F (nI 16) d_T_findWelcome_3 bic_16 ?_
    refine qv_icmpge F d_T_findWelcome_5 rfl (by decide) (by decide) (fun hb => ?_) (fun hb => ?_)
    ·
      refine qv_ext 23 (z := false) (n := 16) (g := ft_ σ) rfl (fun k hk => (hg k hk).symm) ?_
      exact qv_ret F hr hlk d_T_findWelcome_65 (ev_of (ua_ua σ 23 g (ft_ σ)))
    ·
      exact absurd hb (by decide)
  · intro v g hv hg ih
    have q6 := h6 v
    refine qv_iload_n F d_T_findWelcome_2 0 rfl ?_
    refine qv_bipush F (nI 16) d_T_findWelcome_3 bic_16 ?_
    refine qv_icmpge F d_T_findWelcome_5 rfl (by omega) (by omega) (fun hb => ?_) (fun hb => ?_)
    ·
      omega
    ·
      refine qv_iconst F (nI 0) d_T_findWelcome_8 ic_0 ?_
      refine qv_istore_n (L' := [(3, _), (2, _), (0, _), (1, _)]) F d_T_findWelcome_9 (by decide) rfl ?_
      refine qv_iconst F (nI 0) d_T_findWelcome_10 ic_0 ?_
      refine qv_istore (L' := [(4, _), (3, _), (2, _), (0, _), (1, _)]) F d_T_findWelcome_11 (by decide) rfl ?_
      have lp2 := lu_up (fun h (_ : Unit) => vv_ zp l ze (rr_ 1) zs zm za zb zt zc (MQ zb (mq_ X (ev_ (ua σ 23 (ft_ σ)))) za zs 0 0 (aw_ X)) X 5 [(4, .int (nI h)), (3, .int (nI (fw_ σ v h))), (2, .int (nI v)), (0, .ref (adr X 3)), (1, .ref (adr X 1))] (ua σ 23 g) 13 []) (fun _ _ => True) 8 ?_ ?_ 0 () (Nat.zero_le _) trivial
      · exact lp2
      · intro _ _
        refine qv_iload F d_T_findWelcome_13 0 rfl ?_
        refine qv_bipush F (nI 8) d_T_findWelcome_15 bic_8 ?_
        refine qv_icmpge F d_T_findWelcome_17 rfl (by decide) (by decide) (fun hb => ?_) (fun hb => ?_)
        ·
          refine qv_aload_n F d_T_findWelcome_52 3 rfl ?_
          refine g_T_18 F d_T_findWelcome_53 ?_
          refine qv_iload_n F d_T_findWelcome_56 2 rfl ?_
          refine qv_iload_n F d_T_findWelcome_57 1 rfl ?_
          refine sv_23 F (by omega) d_T_findWelcome_58 ?_
          refine qv_sub (L' := [(2, _), (0, _), (1, _)]) [2, 3, 4] rfl ?_
          refine qv_st (us_ua σ 23 g v (fw_ σ v 8)) ?_
          refine qv_iinc (L' := [(2, _), (0, _), (1, _)]) F _ d_T_findWelcome_59 0 rfl (ii_1 _) (by decide) rfl ?_
          refine qv_goto F d_T_findWelcome_62 rfl ?_
          refine ih _ (fun k hk => ?_)
          by_cases ek : k = v
          · subst ek; exact up_eq _ _ _
          · rw [up_ne ek]; exact hg k (by omega)
        ·
          exact absurd hb (by decide)
      · intro h _ hh _ ih2
        have q5 := h5 h
        have e : fw_ σ v (h + 1) = fw_ σ v h ||| (if (σ 6 v).testBit (σ 5 h) = true then 1 * 2 ^ h else 0) := rfl
        have ih2 := ih2 () trivial
        rw [e] at ih2
        refine qv_iload F d_T_findWelcome_13 0 rfl ?_
        refine qv_bipush F (nI 8) d_T_findWelcome_15 bic_8 ?_
        refine qv_icmpge F d_T_findWelcome_17 rfl (by omega) (by omega) (fun hb => ?_) (fun hb => ?_)
        ·
          omega
        ·
          refine qv_aload_n F d_T_findWelcome_20 4 rfl ?_
          refine g_T_52 F d_T_findWelcome_21 ?_
          refine qv_iload_n F d_T_findWelcome_24 2 rfl ?_
          refine ld_6 F (by omega) d_T_findWelcome_25 ?_
          refine qv_aload_n F d_T_findWelcome_26 4 rfl ?_
          refine g_T_57 F d_T_findWelcome_27 ?_
          refine qv_iload F d_T_findWelcome_30 0 rfl ?_
          refine ld_5 F (by omega) d_T_findWelcome_32 ?_
          refine i_T_60i F (c_P_hasBit l X _ (σ 6 v) (σ 5 h) (by omega) (by omega)) (by decide) (Nat.le_of_ble_eq_true rfl) d_T_findWelcome_33 ?_
          refine qv_ifeqB F d_T_findWelcome_36 rfl (fun hb => ?_) (fun hb => ?_)
          ·
            rw [hb, if_neg (by decide), Nat.or_zero] at ih2
            refine qv_iinc (L' := [(4, _), (3, _), (2, _), (0, _), (1, _)]) F _ d_T_findWelcome_46 0 rfl (ii_1 _) (by decide) rfl ?_
            refine qv_goto F d_T_findWelcome_49 rfl ?_
            exact ih2
          ·
            rw [hb, if_pos rfl] at ih2
            have hp : 1 * 2 ^ h < 2 ^ 32 := by rw [Nat.one_mul]; exact Nat.pow_lt_pow_right (by decide) (by omega)
            refine qv_iload_n F d_T_findWelcome_39 1 rfl ?_
            refine qv_iconst F (nI 1) d_T_findWelcome_40 ic_1 ?_
            refine qv_iload F d_T_findWelcome_41 0 rfl ?_
            refine qv_ishl F d_T_findWelcome_43 (by omega) hp ?_
            refine qv_ior F d_T_findWelcome_44 ?_
            refine qv_istore_n (L' := [(3, _), (4, _), (2, _), (0, _), (1, _)]) F d_T_findWelcome_45 (by decide) rfl ?_
            refine qv_sub (L' := [(4, _), (3, _), (2, _), (0, _), (1, _)]) [1, 0, 2, 3, 4] rfl ?_
            refine qv_iinc (L' := [(4, _), (3, _), (2, _), (0, _), (1, _)]) F _ d_T_findWelcome_46 0 rfl (ii_1 _) (by decide) rfl ?_
            refine qv_goto F d_T_findWelcome_49 rfl ?_
            exact ih2

