/-! contexts: the counts -/
set_option maxRecDepth 100000 in
set_option maxHeartbeats 4000000 in
theorem c_N_reckonCounts (l : Launch) (X : wX) (σ : sg) (hn : σ 1 7 ≤ 8) (h11 : ∀ k, σ 11 k < 4) (h12 : ∀ k, σ 12 k < 4) (hC : σ 19 = M4_ σ (σ 1 7)) : mt_ l X y_N_reckonCounts w_N_reckonCounts 4 [.ref (adr X 2), .ref (adr X 1)] σ (ev_ (ua σ 20 (S4_ σ (σ 1 7)))) := by
  refine mt_of (own := R_N) rfl pl_N (Nat.le_of_ble_eq_true rfl) ?_
  intro zp ze zs zm za zb zt zc F hr hlk
  refine qv_sub (L' := [(0, _), (1, _)]) [0, 1] rfl ?_
  have hrf : rf_ σ = cr_ σ (σ 1 7) := by
    show (fun a b => (σ 19 a).testBit b) = fun a b => (mk_ (wc_ (c0_ σ (σ 1 7))) a).testBit b
    rw [hC]
    rfl
  have h19 : ∀ k, k < 4 → σ 19 k < 16 := fun k _ => by rw [hC]; exact mk_lt _ _
  have hok := ok_cr h11 h12 (σ 1 7)
  refine qv_aload_n F d_N_reckonCounts_0 0 rfl ?_
  refine g_N_25 F d_N_reckonCounts_1 ?_
  refine qv_iconst F (nI 1) d_N_reckonCounts_4 ic_1 ?_
  refine i_N_28v F (c_A_fill l X σ 20 4 1 rfl (by decide)) (by decide) (Nat.le_of_ble_eq_true rfl) d_N_reckonCounts_5 ?_
  refine qv_iconst F (nI 0) d_N_reckonCounts_8 ic_0 ?_
  refine qv_istore_n (L' := [(2, _), (0, _), (1, _)]) F d_N_reckonCounts_9 (by decide) rfl ?_
  have lp := lu_up (fun r (_ : Unit) => vv_ zp l ze (rr_ 4) zs zm za zb zt zc (MQ zb (mq_ X (ev_ (ua σ 20 (S4_ σ (σ 1 7))))) za zs 0 0 (aw_ X)) X 4 [(2, .int (nI r)), (0, .ref (adr X 2)), (1, .ref (adr X 1))] (ua σ 20 (sn_ (f1_ σ (cr_ σ (σ 1 7)) (σ 1 7)) (fun _ => 1) r)) 10 []) (fun _ _ => True) 4 ?_ ?_ 0 () (Nat.zero_le _) trivial
  · exact lp
  · intro _ _
    refine qv_iload_n F d_N_reckonCounts_10 0 rfl ?_
    refine qv_iconst F (nI 4) d_N_reckonCounts_11 ic_4 ?_
    refine qv_icmpge F d_N_reckonCounts_12 rfl (by decide) (by decide) (fun hb => ?_) (fun hb => ?_)
    ·
      exact qv_ret F hr hlk d_N_reckonCounts_54 (ev_of rfl)
    ·
      exact absurd hb (by decide)
  · intro r _ hr4 _ ih
    have ih := ih () trivial
    have hB := sn_hb hok hn r
    refine qv_iload_n F d_N_reckonCounts_10 0 rfl ?_
    refine qv_iconst F (nI 4) d_N_reckonCounts_11 ic_4 ?_
    refine qv_icmpge F d_N_reckonCounts_12 rfl (by omega) (by omega) (fun hb => ?_) (fun hb => ?_)
    ·
      omega
    ·
      refine qv_iconst F (nI 0) d_N_reckonCounts_15 ic_0 ?_
      refine qv_istore_n (L' := [(3, _), (2, _), (0, _), (1, _)]) F d_N_reckonCounts_16 (by decide) rfl ?_
      have lp2 := lu_up (fun k (_ : Unit) => vv_ zp l ze (rr_ 4) zs zm za zb zt zc (MQ zb (mq_ X (ev_ (ua σ 20 (S4_ σ (σ 1 7))))) za zs 0 0 (aw_ X)) X 4 [(3, .int (nI k)), (2, .int (nI r)), (0, .ref (adr X 2)), (1, .ref (adr X 1))] (ua σ 20 (sw_ (f1_ σ (cr_ σ (σ 1 7)) (σ 1 7)) (sn_ (f1_ σ (cr_ σ (σ 1 7)) (σ 1 7)) (fun _ => 1) r) k)) 17 []) (fun _ _ => True) 4 ?_ ?_ 0 () (Nat.zero_le _) trivial
      · exact lp2
      · intro _ _
        refine qv_iload_n F d_N_reckonCounts_17 0 rfl ?_
        refine qv_iconst F (nI 4) d_N_reckonCounts_18 ic_4 ?_
        refine qv_icmpge F d_N_reckonCounts_19 rfl (by decide) (by decide) (fun hb => ?_) (fun hb => ?_)
        ·
          refine qv_sub (L' := [(2, _), (0, _), (1, _)]) [1, 2, 3] rfl ?_
          refine qv_iinc (L' := [(2, _), (0, _), (1, _)]) F _ d_N_reckonCounts_48 0 rfl (ii_1 _) (by decide) rfl ?_
          refine qv_goto F d_N_reckonCounts_51 rfl ?_
          exact ih
        ·
          exact absurd hb (by decide)
      · intro k _ hk _ ih2
        have ih2 := ih2 () trivial
        have hB2 := sw_hb hok hn hB k (by omega)
        have e1 : sw_ (f1_ σ (cr_ σ (σ 1 7)) (σ 1 7)) (sn_ (f1_ σ (cr_ σ (σ 1 7)) (σ 1 7)) (fun _ => 1) r) (k + 1) = va_up (sw_ (f1_ σ (cr_ σ (σ 1 7)) (σ 1 7)) (sn_ (f1_ σ (cr_ σ (σ 1 7)) (σ 1 7)) (fun _ => 1) r) k) k (f1_ σ (cr_ σ (σ 1 7)) (σ 1 7) (sw_ (f1_ σ (cr_ σ (σ 1 7)) (σ 1 7)) (sn_ (f1_ σ (cr_ σ (σ 1 7)) (σ 1 7)) (fun _ => 1) r) k) k) := rfl
        rw [e1] at ih2
        generalize sw_ (f1_ σ (cr_ σ (σ 1 7)) (σ 1 7)) (sn_ (f1_ σ (cr_ σ (σ 1 7)) (σ 1 7)) (fun _ => 1) r) k = g at hB2 ih2 ⊢
        have hbr := br_b hok hn hB2 hk (Nat.le_refl (σ 1 7))
        have h512 := pw_le (C := cr_ σ (σ 1 7)) hk
        have e2 : br_ (ua σ 20 g) (rf_ (ua σ 20 g)) ((ua σ 20 g) 20) k (σ 1 7) = br_ σ (cr_ σ (σ 1 7)) g k (σ 1 7) := by
          rw [br_cg (t := ua σ 20 g) (t' := σ) rfl rfl]
          show br_ σ (rf_ σ) g k (σ 1 7) = _
          rw [hrf]
        refine qv_iload_n F d_N_reckonCounts_17 0 rfl ?_
        refine qv_iconst F (nI 4) d_N_reckonCounts_18 ic_4 ?_
        refine qv_icmpge F d_N_reckonCounts_19 rfl (by omega) (by omega) (fun hb => ?_) (fun hb => ?_)
        ·
          omega
        ·
          refine qv_aload_n F d_N_reckonCounts_22 2 rfl ?_
          refine g_N_25 F d_N_reckonCounts_23 ?_
          refine qv_iload_n F d_N_reckonCounts_26 0 rfl ?_
          refine qv_iconst F (nI 1) d_N_reckonCounts_27 ic_1 ?_
          refine qv_aload_n F d_N_reckonCounts_28 2 rfl ?_
          refine qv_aload_n F d_N_reckonCounts_29 3 rfl ?_
          refine qv_aload_n F d_N_reckonCounts_30 3 rfl ?_
          refine g_N_44 F d_N_reckonCounts_31 ?_
          refine qv_iload_n F d_N_reckonCounts_34 0 rfl ?_
          refine i_N_57i F (c_N_broughtBefore l X (ua σ 20 g) (σ 1 7) k hn hk h11 h12 h19) (by decide) (Nat.le_of_ble_eq_true rfl) d_N_reckonCounts_35 ?_
          rw [e2]
          refine qv_max F (by decide) (by omega) (by decide +kernel) (by decide +kernel) (by decide +kernel) (by decide +kernel) (by decide) (Nat.le_of_ble_eq_true rfl) d_N_reckonCounts_38 ?_
          refine sv_20 F (by omega) d_N_reckonCounts_41 ?_
          refine qv_st (us_ua σ 20 g k (f1_ σ (cr_ σ (σ 1 7)) (σ 1 7) g k)) ?_
          refine qv_iinc (L' := [(3, _), (2, _), (0, _), (1, _)]) F _ d_N_reckonCounts_42 0 rfl (ii_1 _) (by decide) rfl ?_
          refine qv_goto F d_N_reckonCounts_45 rfl ?_
          exact ih2
set_option maxRecDepth 100000 in
set_option maxHeartbeats 4000000 in
theorem c_N_keepReckoned (l : Launch) (X : wX) (σ : sg) (hn : σ 1 7 ≤ 8) (h11 : ∀ k, σ 11 k < 4) (h12 : ∀ k, σ 12 k < 4) (h19 : ∀ k, k < 4 → σ 19 k < 16) : mt_ l X y_N_keepReckoned w_N_keepReckoned 4 [.ref (adr X 2), .ref (adr X 1)] σ (ev_ (ua (us (ua σ 17 (σ 20)) 2 2 (σ 1 7)) 18 (fun k => if k < σ 1 7 then ba_ σ (rf_ σ) (σ 20) k else σ 18 k))) := by
  refine mt_of (own := R_N) rfl pl_N (Nat.le_of_ble_eq_true rfl) ?_
  intro zp ze zs zm za zb zt zc F hr hlk
  refine qv_sub (L' := [(0, _), (1, _)]) [0, 1] rfl ?_
  refine qv_aload_n F d_N_keepReckoned_0 0 rfl ?_
  refine g_N_25 F d_N_keepReckoned_1 ?_
  refine qv_iconst F (nI 0) d_N_keepReckoned_4 ic_0 ?_
  refine qv_aload_n F d_N_keepReckoned_5 0 rfl ?_
  refine g_N_9 F d_N_keepReckoned_6 ?_
  refine qv_iconst F (nI 0) d_N_keepReckoned_9 ic_0 ?_
  refine qv_iconst F (nI 4) d_N_keepReckoned_10 ic_4 ?_
  refine qv_acopy F 20 17 rfl rfl (by decide) (by decide +kernel) (by decide +kernel) (by decide +kernel) (by decide +kernel) (by decide) (Nat.le_of_ble_eq_true rfl) d_N_keepReckoned_11 ?_
  refine qv_aload_n F d_N_keepReckoned_14 0 rfl ?_
  refine qv_aload_n F d_N_keepReckoned_15 1 rfl ?_
  refine g_N_44 F d_N_keepReckoned_16 ?_
  refine p_N_18 F d_N_keepReckoned_19 ?_
  refine qv_iconst F (nI 0) d_N_keepReckoned_22 ic_0 ?_
  refine qv_istore_n (L' := [(2, _), (0, _), (1, _)]) F d_N_keepReckoned_23 (by decide) rfl ?_
  have lp := lu_up (fun i (g : Nat → Nat) => vv_ zp l ze (rr_ 4) zs zm za zb zt zc (MQ zb (mq_ X (ev_ (ua (us (ua σ 17 (σ 20)) 2 2 (σ 1 7)) 18 (fun k => if k < σ 1 7 then ba_ σ (rf_ σ) (σ 20) k else σ 18 k)))) za zs 0 0 (aw_ X)) X 4 [(2, .int (nI i)), (0, .ref (adr X 2)), (1, .ref (adr X 1))] (ua (us (ua σ 17 (σ 20)) 2 2 (σ 1 7)) 18 g) 24 []) (fun i g => ∀ k, g k = if k < i then ba_ σ (rf_ σ) (σ 20) k else σ 18 k) (σ 1 7) ?_ ?_ 0 (σ 18) (Nat.zero_le _) (fun k => by rw [if_neg (by omega)])
  · exact qv_st (ua_id (us (ua σ 17 (σ 20)) 2 2 (σ 1 7)) 18).symm lp
  · intro g hg
    have e : g = fun k => if k < σ 1 7 then ba_ σ (rf_ σ) (σ 20) k else σ 18 k := by funext k; exact hg k
    subst e
    refine qv_iload_n F d_N_keepReckoned_24 0 rfl ?_
    refine qv_aload_n F d_N_keepReckoned_25 1 rfl ?_
    refine g_N_18 F d_N_keepReckoned_26 ?_
    refine qv_icmpge F d_N_keepReckoned_29 rfl (show σ 1 7 < 2 ^ 31 by omega) (show σ 1 7 < 2 ^ 31 by omega) (fun hb => ?_) (fun hb => ?_)
    ·
      exact qv_ret F hr hlk d_N_keepReckoned_71 (ev_of rfl)
    ·
      exact absurd (show σ 1 7 < σ 1 7 from hb) (by omega)
  · intro i g hi hg ih
    have hst : ∀ x, x = ba_ σ (rf_ σ) (σ 20) i → ∀ k, va_up g i x k = if k < i + 1 then ba_ σ (rf_ σ) (σ 20) k else σ 18 k := by
      intro x hx k
      by_cases e : k = i
      · subst e; rw [up_eq, if_pos (by omega), hx]
      · rw [up_ne e, hg k]
        by_cases e2 : k < i
        · rw [if_pos e2, if_pos (by omega)]
        · rw [if_neg e2, if_neg (by omega)]
    refine qv_iload_n F d_N_keepReckoned_24 0 rfl ?_
    refine qv_aload_n F d_N_keepReckoned_25 1 rfl ?_
    refine g_N_18 F d_N_keepReckoned_26 ?_
    refine qv_icmpge F d_N_keepReckoned_29 rfl (by omega) (show σ 1 7 < 2 ^ 31 by omega) (fun hb => ?_) (fun hb => ?_)
    ·
      exact absurd (show σ 1 7 ≤ i from hb) (by omega)
    ·
      refine qv_aload_n F d_N_keepReckoned_32 1 rfl ?_
      refine qv_aload_n F d_N_keepReckoned_33 2 rfl ?_
      refine qv_iload_n F d_N_keepReckoned_34 0 rfl ?_
      refine i_N_67i F (c_N_isOuter l X _ i (by omega) h11 h12 h19) (by decide) (Nat.le_of_ble_eq_true rfl) d_N_keepReckoned_35 ?_
      refine qv_istore_n (L' := [(3, _), (2, _), (0, _), (1, _)]) F d_N_keepReckoned_38 (by decide) rfl ?_
      refine qv_aload_n F d_N_keepReckoned_39 2 rfl ?_
      refine g_N_15 F d_N_keepReckoned_40 ?_
      refine qv_iload_n F d_N_keepReckoned_43 1 rfl ?_
      refine qv_iload_n F d_N_keepReckoned_44 0 rfl ?_
      refine qv_ifeqB F d_N_keepReckoned_45 rfl (fun hb => ?_) (fun hb => ?_)
      ·
        have hb : ou_ σ (rf_ σ) i = false := hb
        refine qv_iconst F (nI 0) d_N_keepReckoned_63 ic_0 ?_
        refine sv_18 F (show i < 8 by omega) d_N_keepReckoned_64 ?_
        refine qv_st (us_ua (us (ua σ 17 (σ 20)) 2 2 (σ 1 7)) 18 g i 0) ?_
        refine qv_sub (L' := [(2, _), (0, _), (1, _)]) [1, 2, 3] rfl ?_
        refine qv_iinc (L' := [(2, _), (0, _), (1, _)]) F _ d_N_keepReckoned_65 0 rfl (ii_1 _) (by decide) rfl ?_
        refine qv_goto F d_N_keepReckoned_68 rfl ?_
        exact ih _ (hst 0 (by unfold ba_; rw [if_neg (by rw [hb]; decide)]))
      ·
        have hb : ou_ σ (rf_ σ) i = true := hb
        refine qv_aload_n F d_N_keepReckoned_48 2 rfl ?_
        refine qv_aload_n F d_N_keepReckoned_49 3 rfl ?_
        refine qv_iload_n F d_N_keepReckoned_50 1 rfl ?_
        refine qv_aload_n F d_N_keepReckoned_51 3 rfl ?_
        refine g_N_50 F d_N_keepReckoned_52 ?_
        refine qv_iload_n F d_N_keepReckoned_55 1 rfl ?_
        refine ld_12 F (show i < 8 by omega) d_N_keepReckoned_56 ?_
        refine i_N_57i F (c_N_broughtBefore l X _ i (σ 12 i) (by omega) (h12 i) h11 h12 h19) (by decide) (Nat.le_of_ble_eq_true rfl) d_N_keepReckoned_57 ?_
        refine qv_goto F d_N_keepReckoned_60 rfl ?_
        refine sv_18 F (show i < 8 by omega) d_N_keepReckoned_64 ?_
        refine qv_st (us_ua (us (ua σ 17 (σ 20)) 2 2 (σ 1 7)) 18 g i _) ?_
        refine qv_sub (L' := [(2, _), (0, _), (1, _)]) [1, 2, 3] rfl ?_
        refine qv_iinc (L' := [(2, _), (0, _), (1, _)]) F _ d_N_keepReckoned_65 0 rfl (ii_1 _) (by decide) rfl ?_
        refine qv_goto F d_N_keepReckoned_68 rfl ?_
        refine ih _ (hst _ ?_)
        unfold ba_
        rw [if_pos hb, br_cg (t := ua (us (ua σ 17 (σ 20)) 2 2 (σ 1 7)) 18 g) (t' := σ) rfl rfl]
        rfl
set_option maxRecDepth 100000 in
set_option maxHeartbeats 4000000 in
theorem c_N_renew (l : Launch) (X : wX) (σ : sg) (hn : σ 1 7 ≤ 8) (h11 : ∀ k, σ 11 k < 4) (h12 : ∀ k, σ 12 k < 4) : mt_ l X y_N_renew w_N_renew 5 [.ref (adr X 2), .ref (adr X 1)] σ (ei_ (nI (gd_ (so_ σ (cr_ σ (σ 1 7)) (σ 1 7))).toNat) (if gd_ (so_ σ (cr_ σ (σ 1 7)) (σ 1 7)) = true then ny_ σ else nn_ σ)) := by
  refine mt_of (own := R_N) rfl pl_N (Nat.le_of_ble_eq_true rfl) ?_
  intro zp ze zs zm za zb zt zc F hr hlk
  refine qv_sub (L' := [(0, _), (1, _)]) [0, 1] rfl ?_
  have hok := ok_cr h11 h12 (σ 1 7)
  have hso : ∀ k, k < 4 → S4_ σ (σ 1 7) k = so_ σ (cr_ σ (σ 1 7)) (σ 1 7) k := fun k hk => sn_1 hok _ hk
  have hB : hb_ (cr_ σ (σ 1 7)) (S4_ σ (σ 1 7)) := sn_hb hok hn 4
  have h19 : ∀ k, k < 4 → M4_ σ (σ 1 7) k < 16 := fun k _ => mk_lt _ _
  refine qv_aload_n F d_N_renew_0 0 rfl ?_
  refine qv_aload_n F d_N_renew_1 1 rfl ?_
  refine i_N_34v F (c_N_findReached l X σ hn h11 h12) (by decide) (Nat.le_of_ble_eq_true rfl) d_N_renew_2 ?_
  refine qv_aload_n F d_N_renew_5 0 rfl ?_
  refine qv_aload_n F d_N_renew_6 1 rfl ?_
  refine i_N_38v F (c_N_reckonCounts l X (ua σ 19 (M4_ σ (σ 1 7))) hn h11 h12 (by rw [ua_eq]; unfold M4_; rw [c0_cg (t := ua σ 19 (mk_ (wc_ (c0_ σ (σ 1 7))))) (t' := σ) rfl rfl]; rfl)) (by decide) (Nat.le_of_ble_eq_true rfl) d_N_renew_7 ?_
  have e0 : S4_ (ua σ 19 (M4_ σ (σ 1 7))) (σ 1 7) = S4_ σ (σ 1 7) := by
    have e1 : c0_ (ua σ 19 (M4_ σ (σ 1 7))) = c0_ σ := c0_cg rfl rfl
    have e2 : br_ (ua σ 19 (M4_ σ (σ 1 7))) = br_ σ := br_cg rfl rfl
    unfold S4_ f1_ cr_
    rw [e1, e2]
  refine qv_st (σ' := nn_ σ) (by show ua (ua σ 19 (M4_ σ (σ 1 7))) 20 (S4_ (ua σ 19 (M4_ σ (σ 1 7))) (σ 1 7)) = _; rw [e0]; rfl) ?_
  refine qv_iconst F (nI 0) d_N_renew_10 ic_0 ?_
  refine qv_istore_n (L' := [(2, _), (0, _), (1, _)]) F d_N_renew_11 (by decide) rfl ?_
  have lp := lu_up (fun i (_ : Unit) => vv_ zp l ze (rr_ 5) zs zm za zb zt zc (MQ zb (mq_ X (ei_ (nI (gd_ (so_ σ (cr_ σ (σ 1 7)) (σ 1 7))).toNat) (if gd_ (so_ σ (cr_ σ (σ 1 7)) (σ 1 7)) = true then ny_ σ else nn_ σ))) za zs 0 0 (aw_ X)) X 3 [(2, .int (nI i)), (0, .ref (adr X 2)), (1, .ref (adr X 1))] (nn_ σ) 12 []) (fun i _ => ∀ k, k < i → S4_ σ (σ 1 7) k ≤ 8) 4 ?_ ?_ 0 () (Nat.zero_le _) (fun k hk => by omega)
  · exact lp
  · intro _ hI
    have hg : gd_ (so_ σ (cr_ σ (σ 1 7)) (σ 1 7)) = true := by rw [← gd_cg hso]; exact gd_t hI
    rw [hg, if_pos rfl]
    refine qv_iload_n F d_N_renew_12 0 rfl ?_
    refine qv_iconst F (nI 4) d_N_renew_13 ic_4 ?_
    refine qv_icmpge F d_N_renew_14 rfl (by decide) (by decide) (fun hb => ?_) (fun hb => ?_)
    ·
      refine qv_aload_n F d_N_renew_36 1 rfl ?_
      refine qv_aload_n F d_N_renew_37 2 rfl ?_
      refine i_N_41v F (c_N_keepReckoned l X (nn_ σ) hn h11 h12 h19) (by decide) (Nat.le_of_ble_eq_true rfl) d_N_renew_38 ?_
      refine qv_iconst F (nI 1) d_N_renew_41 ic_1 ?_
      refine qv_ext 17 (z := false) (n := 4) (g := ct2_ σ (σ 1 7)) rfl (fun k hk => ?_) ?_
      · show ct2_ σ (σ 1 7) k = S4_ σ (σ 1 7) k
        unfold ct2_
        rw [if_pos hk, hso k hk]
      · refine qv_st (σ' := ny_ σ) ?_ ?_
        · have e3 : rf_ (nn_ σ) = cr_ σ (σ 1 7) := rfl
          have e4 : (fun k => if k < nn_ σ 1 7 then ba_ (nn_ σ) (rf_ (nn_ σ)) (nn_ σ 20) k else nn_ σ 18 k) = fb_ σ (σ 1 7) (σ 18) := by
            funext k
            show (if k < σ 1 7 then ba_ (nn_ σ) (cr_ σ (σ 1 7)) (S4_ σ (σ 1 7)) k else σ 18 k) = if k < σ 1 7 then ba_ σ (cr_ σ (σ 1 7)) (so_ σ (cr_ σ (σ 1 7)) (σ 1 7)) k else σ 18 k
            by_cases hk : k < σ 1 7
            · rw [if_pos hk, if_pos hk, ← ba_f h11 hso k]
              unfold ba_
              rw [br_cg (t := nn_ σ) (t' := σ) rfl rfl]
              rfl
            · rw [if_neg hk, if_neg hk]
          rw [e4]
          funext b
          unfold ny_
          by_cases b18 : b = 18
          · subst b18; rw [ua_eq, ua_ne (by decide), ua_eq]
          · by_cases b17 : b = 17
            · subst b17; rw [ua_eq]; rfl
            · rw [ua_ne b17, ua_ne b18, ua_ne b18]
              unfold us
              by_cases b2 : b = 2
              · subst b2; rw [ua_eq, ua_eq]; rfl
              · rw [ua_ne b2, ua_ne b2, ua_ne b17, ua_ne b17]
                rfl
        ·
          exact qv_zret F hr hlk (by first | exact Or.inl rfl | exact Or.inr rfl | exact bz_01 _) d_N_renew_42 (ei_of rfl rfl)
    ·
      exact absurd hb (by decide)
  · intro i _ hi hI ih
    have b1 := hB i hi
    have b2 := pw_le (C := cr_ σ (σ 1 7)) hi
    refine qv_iload_n F d_N_renew_12 0 rfl ?_
    refine qv_iconst F (nI 4) d_N_renew_13 ic_4 ?_
    refine qv_icmpge F d_N_renew_14 rfl (by omega) (by omega) (fun hb => ?_) (fun hb => ?_)
    ·
      omega
    ·
      refine qv_aload_n F d_N_renew_17 1 rfl ?_
      refine g_N_25 F d_N_renew_18 ?_
      refine qv_iload_n F d_N_renew_21 0 rfl ?_
      refine ld_20 F hi d_N_renew_22 ?_
      refine qv_bipush F (nI 8) d_N_renew_23 bic_8 ?_
      refine qv_icmple F d_N_renew_25 rfl (show S4_ σ (σ 1 7) i < 2 ^ 31 by omega) (by omega) (fun hb => ?_) (fun hb => ?_)
      ·
        have hb : S4_ σ (σ 1 7) i ≤ 8 := hb
        refine qv_iinc (L' := [(2, _), (0, _), (1, _)]) F _ d_N_renew_30 0 rfl (ii_1 _) (by decide) rfl ?_
        refine qv_goto F d_N_renew_33 rfl ?_
        refine ih () (fun k hk => ?_)
        by_cases e : k = i
        · subst e; exact hb
        · exact hI k (by omega)
      ·
        have hb : 8 < S4_ σ (σ 1 7) i := hb
        have hg : gd_ (so_ σ (cr_ σ (σ 1 7)) (σ 1 7)) = false := by rw [← gd_cg hso]; exact gd_f hi hb
        rw [hg]
        refine qv_iconst F (nI 0) d_N_renew_28 ic_0 ?_
        exact qv_zret F hr hlk (by first | exact Or.inl rfl | exact Or.inr rfl | exact bz_01 _) d_N_renew_29 (ei_of rfl rfl)

