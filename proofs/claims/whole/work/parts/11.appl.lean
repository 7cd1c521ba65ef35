/-! relations: statements and calls -/
set_option maxRecDepth 100000 in
set_option maxHeartbeats 4000000 in
theorem c_T_applyStatement (l : Launch) (X : wX) (σ : sg) (k c : Nat) (hk : k < 40) (hc : c < 8) (ht : tw_ σ) (h1 : B_ (rg_ σ)) (h2 : ∀ k, σ 23 k < 256) : mt_ l X y_T_applyStatement w_T_applyStatement 2 [.ref (adr X 3), .ref (adr X 1), .int (nI k), .int (nI c)] σ (ev_ (sr_ σ (sx_ σ (σ 23) k c (rg_ σ)))) := by
  refine mt_of (own := R_T) rfl pl_T (Nat.le_of_ble_eq_true rfl) ?_
  intro zp ze zs zm za zb zt zc F hr hlk
  refine qv_sub (L' := [(0, _), (1, _), (2, _), (3, _)]) [0, 1, 2, 3] rfl ?_
  have t7 := ht.2.2.1 k
  have t8 := ht.2.2.2.1 k
  have t9 := ht.2.2.2.2.1 k
  have t10 := ht.2.2.2.2.2.1 k
  refine qv_aload_n F d_T_applyStatement_0 1 rfl ?_
  refine g_T_73 F d_T_applyStatement_1 ?_
  refine qv_iload_n F d_T_applyStatement_4 2 rfl ?_
  refine ld_8 F (by omega) d_T_applyStatement_5 ?_
  refine qv_istore (L' := [(4, _), (0, _), (1, _), (2, _), (3, _)]) F d_T_applyStatement_6 (by decide) rfl ?_
  refine qv_aload_n F d_T_applyStatement_8 2 rfl ?_
  refine g_T_83 F d_T_applyStatement_9 ?_
  refine qv_iload_n F d_T_applyStatement_12 3 rfl ?_
  refine ld_9 F (by omega) d_T_applyStatement_13 ?_
  refine qv_istore (L' := [(5, _), (4, _), (0, _), (1, _), (2, _), (3, _)]) F d_T_applyStatement_14 (by decide) rfl ?_
  refine qv_aload_n F d_T_applyStatement_16 3 rfl ?_
  refine g_T_86 F d_T_applyStatement_17 ?_
  refine qv_iload_n F d_T_applyStatement_20 4 rfl ?_
  refine ld_10 F (by omega) d_T_applyStatement_21 ?_
  refine qv_istore (L' := [(6, _), (5, _), (4, _), (0, _), (1, _), (2, _), (3, _)]) F d_T_applyStatement_22 (by decide) rfl ?_
  refine qv_aload_n F d_T_applyStatement_24 4 rfl ?_
  refine g_T_89 F d_T_applyStatement_25 ?_
  refine qv_iload_n F d_T_applyStatement_28 5 rfl ?_
  refine ld_7 F (by omega) d_T_applyStatement_29 ?_
  rcases (by omega : σ 7 k = 0 ∨ σ 7 k = 1 ∨ σ 7 k = 2 ∨ σ 7 k = 3) with q | q | q | q
  · have q2 : sx_ σ (σ 23) k c (rg_ σ) = ad_ (σ 23) c (σ 8 k) (1 * 2 ^ σ 9 k) (rg_ σ) := by unfold sx_; rw [if_pos q]
    have hp : 1 * 2 ^ σ 9 k < 2 ^ 32 := by rw [Nat.one_mul]; exact Nat.pow_lt_pow_right (by decide) (by omega)
    rw [q, q2]
    refine qv_tsw F d_T_applyStatement_30 (by decide) (by decide) (by decide) (off := 26) (tgt := 56) rfl rfl ?_
    refine qv_aload_n F d_T_applyStatement_56 3 rfl ?_
    refine qv_iload_n F d_T_applyStatement_57 6 rfl ?_
    refine qv_iload F d_T_applyStatement_58 2 rfl ?_
    refine qv_iconst F (nI 1) d_T_applyStatement_60 ic_1 ?_
    refine qv_iload F d_T_applyStatement_61 1 rfl ?_
    refine qv_ishl F d_T_applyStatement_63 (by omega) hp ?_
    refine i_T_92v F (c_T_addPointed l X σ c (σ 8 k) (1 * 2 ^ σ 9 k) (by omega) t8 h1.1 h2) (by decide) (Nat.le_of_ble_eq_true rfl) d_T_applyStatement_64 ?_
    refine qv_goto F d_T_applyStatement_67 rfl ?_
    exact qv_ret F hr hlk d_T_applyStatement_130 (ev_of rfl)
  · have q2 : sx_ σ (σ 23) k c (rg_ σ) = ad_ (σ 23) c (σ 8 k) (σ 21 (c * 16 + σ 9 k)) (rg_ σ) := by unfold sx_; rw [if_neg (by omega), if_pos q]; rfl
    rw [q, q2]
    refine qv_tsw F d_T_applyStatement_30 (by decide) (by decide) (by decide) (off := 40) (tgt := 70) rfl rfl ?_
    refine qv_aload_n F d_T_applyStatement_70 3 rfl ?_
    refine qv_iload_n F d_T_applyStatement_71 6 rfl ?_
    refine qv_iload F d_T_applyStatement_72 2 rfl ?_
    refine qv_aload_n F d_T_applyStatement_74 3 rfl ?_
    refine qv_iload_n F d_T_applyStatement_75 6 rfl ?_
    refine qv_iload F d_T_applyStatement_76 1 rfl ?_
    refine i_T_96i F (c_T_pointedTo l X σ c (σ 9 k) (by omega)) (by decide) (Nat.le_of_ble_eq_true rfl) d_T_applyStatement_78 ?_
    refine i_T_92v F (c_T_addPointed l X σ c (σ 8 k) (σ 21 (c * 16 + σ 9 k)) (by omega) t8 h1.1 h2) (by decide) (Nat.le_of_ble_eq_true rfl) d_T_applyStatement_81 ?_
    refine qv_goto F d_T_applyStatement_84 rfl ?_
    exact qv_ret F hr hlk d_T_applyStatement_130 (ev_of rfl)
  · have q2 : sx_ σ (σ 23) k c (rg_ σ) = hs_ (σ 21 (c * 16 + σ 8 k)) (σ 10 k) (σ 21 (c * 16 + σ 9 k)) 8 (rg_ σ) := by unfold sx_; rw [if_neg (by omega), if_neg (by omega), if_pos q]; rfl
    have b1 := h1.1 (c * 16 + σ 8 k)
    have b2 := h1.1 (c * 16 + σ 9 k)
    rw [q, q2]
    refine qv_tsw F d_T_applyStatement_30 (by decide) (by decide) (by decide) (off := 57) (tgt := 87) rfl rfl ?_
    refine qv_aload_n F d_T_applyStatement_87 3 rfl ?_
    refine qv_aload_n F d_T_applyStatement_88 3 rfl ?_
    refine qv_iload_n F d_T_applyStatement_89 6 rfl ?_
    refine qv_iload F d_T_applyStatement_90 2 rfl ?_
    refine i_T_96i F (c_T_pointedTo l X σ c (σ 8 k) (by omega)) (by decide) (Nat.le_of_ble_eq_true rfl) d_T_applyStatement_92 ?_
    refine qv_iload F d_T_applyStatement_95 0 rfl ?_
    refine qv_aload_n F d_T_applyStatement_97 3 rfl ?_
    refine qv_iload_n F d_T_applyStatement_98 6 rfl ?_
    refine qv_iload F d_T_applyStatement_99 1 rfl ?_
    refine i_T_96i F (c_T_pointedTo l X σ c (σ 9 k) (by omega)) (by decide) (Nat.le_of_ble_eq_true rfl) d_T_applyStatement_101 ?_
    refine i_T_100v F (c_T_addHeld l X σ (σ 21 (c * 16 + σ 8 k)) (σ 10 k) (σ 21 (c * 16 + σ 9 k)) (Nat.lt_trans b1 (by decide)) t10 b2 h1) (by decide) (Nat.le_of_ble_eq_true rfl) d_T_applyStatement_104 ?_
    refine qv_goto F d_T_applyStatement_107 rfl ?_
    exact qv_ret F hr hlk d_T_applyStatement_130 (ev_of rfl)
  · have q2 : sx_ σ (σ 23) k c (rg_ σ) = ad_ (σ 23) c (σ 8 k) (ha_ (σ 22) (σ 21 (c * 16 + σ 9 k)) (σ 10 k) 8) (rg_ σ) := by unfold sx_; rw [if_neg (by omega), if_neg (by omega), if_neg (by omega)]; rfl
    have b2 := h1.1 (c * 16 + σ 9 k)
    rw [q, q2]
    refine qv_tswO F d_T_applyStatement_30 (by decide) (by decide) (tgt := 110) rfl ?_
    refine qv_aload_n F d_T_applyStatement_110 3 rfl ?_
    refine qv_iload_n F d_T_applyStatement_111 6 rfl ?_
    refine qv_iload F d_T_applyStatement_112 2 rfl ?_
    refine qv_aload_n F d_T_applyStatement_114 3 rfl ?_
    refine qv_aload_n F d_T_applyStatement_115 3 rfl ?_
    refine qv_iload_n F d_T_applyStatement_116 6 rfl ?_
    refine qv_iload F d_T_applyStatement_117 1 rfl ?_
    refine i_T_96i F (c_T_pointedTo l X σ c (σ 9 k) (by omega)) (by decide) (Nat.le_of_ble_eq_true rfl) d_T_applyStatement_119 ?_
    refine qv_iload F d_T_applyStatement_122 0 rfl ?_
    refine i_T_103i F (c_T_heldInAny l X σ (σ 21 (c * 16 + σ 9 k)) (σ 10 k) (Nat.lt_trans b2 (by decide)) t10) (by decide) (Nat.le_of_ble_eq_true rfl) d_T_applyStatement_124 ?_
    refine i_T_92v F (c_T_addPointed l X σ c (σ 8 k) (ha_ (σ 22) (σ 21 (c * 16 + σ 9 k)) (σ 10 k) 8) (by omega) t8 h1.1 h2) (by decide) (Nat.le_of_ble_eq_true rfl) d_T_applyStatement_127 ?_
    exact qv_ret F hr hlk d_T_applyStatement_130 (ev_of rfl)
set_option maxRecDepth 100000 in
set_option maxHeartbeats 4000000 in
theorem c_T_applyStatements (l : Launch) (X : wX) (σ : sg) (hn : σ 1 2 ≤ 40) (hm : ∀ k, σ 17 k ≤ 8) (ht : tw_ σ) (h1 : B_ (rg_ σ)) (h2 : ∀ k, σ 23 k < 256) : mt_ l X y_T_applyStatements w_T_applyStatements 3 [.ref (adr X 3), .ref (adr X 1), .ref (adr X 2)] σ (ev_ (sr_ σ (ss_ σ (σ 23) (σ 17) (σ 1 2) (rg_ σ)))) := by
  refine mt_of (own := R_T) rfl pl_T (Nat.le_of_ble_eq_true rfl) ?_
  intro zp ze zs zm za zb zt zc F hr hlk
  refine qv_sub (L' := [(0, _), (1, _), (2, _)]) [0, 1, 2] rfl ?_
  refine qv_iconst F (nI 0) d_T_applyStatements_0 ic_0 ?_
  refine qv_istore_n (L' := [(3, _), (0, _), (1, _), (2, _)]) F d_T_applyStatements_1 (by decide) rfl ?_
  have lp := lu_up (fun k (_ : Unit) => vv_ zp l ze (rr_ 3) zs zm za zb zt zc (MQ zb (mq_ X (ev_ (sr_ σ (ss_ σ (σ 23) (σ 17) (σ 1 2) (rg_ σ))))) za zs 0 0 (aw_ X)) X 6 [(3, .int (nI k)), (0, .ref (adr X 3)), (1, .ref (adr X 1)), (2, .ref (adr X 2))] (sr_ σ (ss_ σ (σ 23) (σ 17) k (rg_ σ))) 2 []) (fun _ _ => True) (σ 1 2) ?_ ?_ 0 () (Nat.zero_le _) trivial
  · exact qv_st (sr_rg σ).symm lp
  · intro _ _
    refine qv_iload_n F d_T_applyStatements_2 0 rfl ?_
    refine qv_aload_n F d_T_applyStatements_3 2 rfl ?_
    refine g_T_64 F d_T_applyStatements_4 ?_
    refine qv_icmpge F d_T_applyStatements_7 rfl (show σ 1 2 < 2 ^ 31 by omega) (show σ 1 2 < 2 ^ 31 by omega) (fun hb => ?_) (fun hb => ?_)
    ·
      exact qv_ret F hr hlk d_T_applyStatements_56 (ev_of rfl)
    ·
      exact absurd (show σ 1 2 < σ 1 2 from hb) (by omega)
  · intro k _ hk _ ih
    have ih := ih () trivial
    have t8 := ht.2.2.2.1 k
    have m8 := hm (σ 8 k / 4)
    have hB : B_ (ss_ σ (σ 23) (σ 17) k (rg_ σ)) := ss_B h2 h1
    have e1 : ss_ σ (σ 23) (σ 17) (k + 1) (rg_ σ) = it_ (sx_ σ (σ 23) k) (σ 17 (σ 8 k / 4)) (ss_ σ (σ 23) (σ 17) k (rg_ σ)) := rfl
    rw [e1] at ih
    generalize ss_ σ (σ 23) (σ 17) k (rg_ σ) = r at hB ih ⊢
    refine qv_iload_n F d_T_applyStatements_2 0 rfl ?_
    refine qv_aload_n F d_T_applyStatements_3 2 rfl ?_
    refine g_T_64 F d_T_applyStatements_4 ?_
    refine qv_icmpge F d_T_applyStatements_7 rfl (by omega) (show σ 1 2 < 2 ^ 31 by omega) (fun hb => ?_) (fun hb => ?_)
    ·
      exact absurd (show σ 1 2 ≤ k from hb) (by omega)
    ·
      refine qv_aload_n F d_T_applyStatements_10 3 rfl ?_
      refine g_T_68 F d_T_applyStatements_11 ?_
      refine qv_aload_n F d_T_applyStatements_14 2 rfl ?_
      refine g_T_73 F d_T_applyStatements_15 ?_
      refine qv_iload_n F d_T_applyStatements_18 0 rfl ?_
      refine ld_8 F (show k < 40 by omega) d_T_applyStatements_19 ?_
      refine i_T_76i F (c_P_methodOf l X _ (σ 8 k) (by omega)) (by decide) (Nat.le_of_ble_eq_true rfl) d_T_applyStatements_20 ?_
      refine ld_17 F (show σ 8 k / 4 < 4 by omega) d_T_applyStatements_23 ?_
      refine qv_istore (L' := [(4, _), (3, _), (0, _), (1, _), (2, _)]) F d_T_applyStatements_24 (by decide) rfl ?_
      refine qv_iconst F (nI 0) d_T_applyStatements_26 ic_0 ?_
      refine qv_istore (L' := [(5, _), (4, _), (3, _), (0, _), (1, _), (2, _)]) F d_T_applyStatements_27 (by decide) rfl ?_
      have lp2 := lu_up (fun c (_ : Unit) => vv_ zp l ze (rr_ 3) zs zm za zb zt zc (MQ zb (mq_ X (ev_ (sr_ σ (ss_ σ (σ 23) (σ 17) (σ 1 2) (rg_ σ))))) za zs 0 0 (aw_ X)) X 6 [(5, .int (nI c)), (4, .int (nI (σ 17 (σ 8 k / 4)))), (3, .int (nI k)), (0, .ref (adr X 3)), (1, .ref (adr X 1)), (2, .ref (adr X 2))] (sr_ σ (it_ (sx_ σ (σ 23) k) c r)) 29 []) (fun _ _ => True) (σ 17 (σ 8 k / 4)) ?_ ?_ 0 () (Nat.zero_le _) trivial
      · exact lp2
      · intro _ _
        refine qv_iload F d_T_applyStatements_29 0 rfl ?_
        refine qv_iload F d_T_applyStatements_31 1 rfl ?_
        refine qv_icmpge F d_T_applyStatements_33 rfl (by omega) (by omega) (fun hb => ?_) (fun hb => ?_)
        ·
          refine qv_sub (L' := [(3, _), (0, _), (1, _), (2, _)]) [2, 3, 4, 5] rfl ?_
          refine qv_iinc (L' := [(3, _), (0, _), (1, _), (2, _)]) F _ d_T_applyStatements_50 0 rfl (ii_1 _) (by decide) rfl ?_
          refine qv_goto F d_T_applyStatements_53 rfl ?_
          exact ih
        ·
          omega
      · intro c _ hc _ ih2
        have ih2 := ih2 () trivial
        have hB2 : B_ (it_ (sx_ σ (σ 23) k) c r) := it_B (fun _ s hs => sx_B h2 hs) c r hB
        refine qv_iload F d_T_applyStatements_29 0 rfl ?_
        refine qv_iload F d_T_applyStatements_31 1 rfl ?_
        refine qv_icmpge F d_T_applyStatements_33 rfl (by omega) (by omega) (fun hb => ?_) (fun hb => ?_)
        ·
          omega
        ·
          refine qv_aload_n F d_T_applyStatements_36 3 rfl ?_
          refine qv_aload_n F d_T_applyStatements_37 4 rfl ?_
          refine qv_iload_n F d_T_applyStatements_38 2 rfl ?_
          refine qv_iload F d_T_applyStatements_39 0 rfl ?_
          refine i_T_79v F (c_T_applyStatement l X (sr_ σ (it_ (sx_ σ (σ 23) k) c r)) k c (by omega) (by omega) ht hB2 h2) (by decide) (Nat.le_of_ble_eq_true rfl) d_T_applyStatements_41 ?_
          rw [sr_sr]
          refine qv_iinc (L' := [(5, _), (4, _), (3, _), (0, _), (1, _), (2, _)]) F _ d_T_applyStatements_44 0 rfl (ii_1 _) (by decide) rfl ?_
          refine qv_goto F d_T_applyStatements_47 rfl ?_
          exact ih2
set_option maxRecDepth 100000 in
set_option maxHeartbeats 4000000 in
theorem c_T_applyPasses (l : Launch) (X : wX) (σ : sg) (k c d : Nat) (hk : k < 8) (hc : c < 8) (hd : d < 8) (ht : tw_ σ) (h1 : B_ (rg_ σ)) (h2 : ∀ k, σ 23 k < 256) : mt_ l X y_T_applyPasses w_T_applyPasses 2 [.ref (adr X 3), .ref (adr X 1), .int (nI k), .int (nI c), .int (nI d)] σ (ev_ (sr_ σ (pp_ σ (σ 23) k c d (σ 13 k) (rg_ σ)))) := by
  refine mt_of (own := R_T) rfl pl_T (Nat.le_of_ble_eq_true rfl) ?_
  intro zp ze zs zm za zb zt zc F hr hlk
  refine qv_sub (L' := [(0, _), (1, _), (2, _), (3, _), (4, _)]) [0, 1, 2, 3, 4] rfl ?_
  have t13 := ht.2.2.2.2.2.2.2.2.1 k
  refine qv_iload_n F d_T_applyPasses_0 2 rfl ?_
  refine qv_iconst F (nI 4) d_T_applyPasses_1 ic_4 ?_
  refine qv_imul F d_T_applyPasses_2 ?_
  refine qv_istore (L' := [(5, _), (0, _), (1, _), (2, _), (3, _), (4, _)]) F d_T_applyPasses_3 (by decide) rfl ?_
  refine qv_iload F d_T_applyPasses_5 0 rfl ?_
  refine qv_aload_n F d_T_applyPasses_7 2 rfl ?_
  refine g_T_119 F d_T_applyPasses_8 ?_
  refine qv_iload_n F d_T_applyPasses_11 3 rfl ?_
  refine ld_13 F (by omega) d_T_applyPasses_12 ?_
  refine qv_iadd F d_T_applyPasses_13 ?_
  refine qv_istore (L' := [(6, _), (5, _), (0, _), (1, _), (2, _), (3, _), (4, _)]) F d_T_applyPasses_14 (by decide) rfl ?_
  refine qv_iload F d_T_applyPasses_16 1 rfl ?_
  refine qv_istore (L' := [(7, _), (6, _), (5, _), (0, _), (1, _), (2, _), (3, _), (4, _)]) F d_T_applyPasses_18 (by decide) rfl ?_
  have lp := lu_up (fun j (_ : Unit) => vv_ zp l ze (rr_ 2) zs zm za zb zt zc (MQ zb (mq_ X (ev_ (sr_ σ (pp_ σ (σ 23) k c d (σ 13 k) (rg_ σ))))) za zs 0 0 (aw_ X)) X 10 [(7, .int (nI (k * 4 + j))), (6, .int (nI (k * 4 + σ 13 k))), (5, .int (nI (k * 4))), (0, .ref (adr X 3)), (1, .ref (adr X 1)), (2, .int (nI k)), (3, .int (nI c)), (4, .int (nI d))] (sr_ σ (pp_ σ (σ 23) k c d j (rg_ σ))) 20 []) (fun _ _ => True) (σ 13 k) ?_ ?_ 0 () (Nat.zero_le _) trivial
  · exact qv_st (sr_rg σ).symm lp
  · intro _ _
    refine qv_iload F d_T_applyPasses_20 0 rfl ?_
    refine qv_iload F d_T_applyPasses_22 1 rfl ?_
    refine qv_icmpge F d_T_applyPasses_24 rfl (by omega) (by omega) (fun hb => ?_) (fun hb => ?_)
    ·
      exact qv_ret F hr hlk d_T_applyPasses_94 (ev_of rfl)
    ·
      omega
  · intro j _ hj _ ih
    have ih := ih () trivial
    have t14 := ht.2.2.2.2.2.2.2.2.2.1 (k * 4 + j)
    have t15 := ht.2.2.2.2.2.2.2.2.2.2.1 (k * 4 + j)
    have t16 := ht.2.2.2.2.2.2.2.2.2.2.2 (k * 4 + j)
    have hB : B_ (pp_ σ (σ 23) k c d j (rg_ σ)) := pp_B h2 h1
    have e1 : pp_ σ (σ 23) k c d (j + 1) (rg_ σ) = pa_ σ (σ 23) c d (k * 4 + j) (pp_ σ (σ 23) k c d j (rg_ σ)) := rfl
    rw [e1] at ih
    generalize pp_ σ (σ 23) k c d j (rg_ σ) = r at hB ih ⊢
    refine qv_iload F d_T_applyPasses_20 0 rfl ?_
    refine qv_iload F d_T_applyPasses_22 1 rfl ?_
    refine qv_icmpge F d_T_applyPasses_24 rfl (by omega) (by omega) (fun hb => ?_) (fun hb => ?_)
    ·
      omega
    ·
      refine qv_aload_n F d_T_applyPasses_27 4 rfl ?_
      refine g_T_122 F d_T_applyPasses_28 ?_
      refine qv_iload F d_T_applyPasses_31 0 rfl ?_
      refine ld_14 F (by omega) d_T_applyPasses_33 ?_
      refine qv_istore (L' := [(8, _), (7, _), (6, _), (5, _), (0, _), (1, _), (2, _), (3, _), (4, _)]) F d_T_applyPasses_34 (by decide) rfl ?_
      refine qv_aload_n F d_T_applyPasses_36 5 rfl ?_
      refine g_T_125 F d_T_applyPasses_37 ?_
      refine qv_iload F d_T_applyPasses_40 1 rfl ?_
      refine ld_15 F (by omega) d_T_applyPasses_42 ?_
      refine qv_istore (L' := [(9, _), (8, _), (7, _), (6, _), (5, _), (0, _), (1, _), (2, _), (3, _), (4, _)]) F d_T_applyPasses_43 (by decide) rfl ?_
      refine qv_aload_n F d_T_applyPasses_45 6 rfl ?_
      refine g_T_128 F d_T_applyPasses_46 ?_
      refine qv_iload F d_T_applyPasses_49 2 rfl ?_
      refine ld_16 F (by omega) d_T_applyPasses_51 ?_
      refine qv_ifeq F d_T_applyPasses_52 rfl (show σ 16 (k * 4 + j) < 2 ^ 31 by omega) (fun hb => ?_) (fun hb => ?_)
      ·
        have hb : σ 16 (k * 4 + j) = 0 := hb
        have e2 : pa_ σ (σ 23) c d (k * 4 + j) r = ad_ (σ 23) d (σ 14 (k * 4 + j)) (r.1 (c * 16 + σ 15 (k * 4 + j))) r := by unfold pa_; rw [if_pos hb]
        rw [e2] at ih
        refine qv_aload_n F d_T_applyPasses_73 5 rfl ?_
        refine qv_iload F d_T_applyPasses_74 9 rfl ?_
        refine qv_iload F d_T_applyPasses_76 1 rfl ?_
        refine qv_aload_n F d_T_applyPasses_78 5 rfl ?_
        refine qv_iload_n F d_T_applyPasses_79 8 rfl ?_
        refine qv_iload F d_T_applyPasses_80 0 rfl ?_
        refine i_T_96i F (c_T_pointedTo l X (sr_ σ r) c (σ 15 (k * 4 + j)) (by omega)) (by decide) (Nat.le_of_ble_eq_true rfl) d_T_applyPasses_82 ?_
        refine i_T_92v F (c_T_addPointed l X (sr_ σ r) d (σ 14 (k * 4 + j)) (r.1 (c * 16 + σ 15 (k * 4 + j))) (by omega) t14 hB.1 h2) (by decide) (Nat.le_of_ble_eq_true rfl) d_T_applyPasses_85 ?_
        rw [sr_sr]
        refine qv_sub (L' := [(7, _), (6, _), (5, _), (0, _), (1, _), (2, _), (3, _), (4, _)]) [2, 3, 4, 5, 6, 7, 8, 9] rfl ?_
        refine qv_iinc (L' := [(7, _), (6, _), (5, _), (0, _), (1, _), (2, _), (3, _), (4, _)]) F _ d_T_applyPasses_88 0 rfl (ii_1 _) (by decide) rfl ?_
        refine qv_goto F d_T_applyPasses_91 rfl ?_
        exact ih
      ·
        have hb : σ 16 (k * 4 + j) ≠ 0 := hb
        have e2 : pa_ σ (σ 23) c d (k * 4 + j) r = ad_ (σ 23) c (σ 14 (k * 4 + j)) (r.1 (d * 16 + σ 15 (k * 4 + j))) r := by unfold pa_; rw [if_neg hb]
        rw [e2] at ih
        refine qv_aload_n F d_T_applyPasses_55 5 rfl ?_
        refine qv_iload_n F d_T_applyPasses_56 8 rfl ?_
        refine qv_iload F d_T_applyPasses_57 1 rfl ?_
        refine qv_aload_n F d_T_applyPasses_59 5 rfl ?_
        refine qv_iload F d_T_applyPasses_60 9 rfl ?_
        refine qv_iload F d_T_applyPasses_62 0 rfl ?_
        refine i_T_96i F (c_T_pointedTo l X (sr_ σ r) d (σ 15 (k * 4 + j)) (by omega)) (by decide) (Nat.le_of_ble_eq_true rfl) d_T_applyPasses_64 ?_
        refine i_T_92v F (c_T_addPointed l X (sr_ σ r) c (σ 14 (k * 4 + j)) (r.1 (d * 16 + σ 15 (k * 4 + j))) (by omega) t14 hB.1 h2) (by decide) (Nat.le_of_ble_eq_true rfl) d_T_applyPasses_67 ?_
        rw [sr_sr]
        refine qv_goto F d_T_applyPasses_70 rfl ?_
        refine qv_sub (L' := [(7, _), (6, _), (5, _), (0, _), (1, _), (2, _), (3, _), (4, _)]) [2, 3, 4, 5, 6, 7, 8, 9] rfl ?_
        refine qv_iinc (L' := [(7, _), (6, _), (5, _), (0, _), (1, _), (2, _), (3, _), (4, _)]) F _ d_T_applyPasses_88 0 rfl (ii_1 _) (by decide) rfl ?_
        refine qv_goto F d_T_applyPasses_91 rfl ?_
        exact ih
set_option maxRecDepth 100000 in
set_option maxHeartbeats 4000000 in
theorem c_T_applyCalls (l : Launch) (X : wX) (σ : sg) (hn : σ 1 7 ≤ 8) (hb0 : ∀ k, k < σ 1 7 → σ 18 k + σ 17 (σ 11 k) ≤ 8) (ht : tw_ σ) (h1 : B_ (rg_ σ)) (h2 : ∀ k, σ 23 k < 256) : mt_ l X y_T_applyCalls w_T_applyCalls 3 [.ref (adr X 3), .ref (adr X 1), .ref (adr X 2)] σ (ev_ (sr_ σ (cs_ σ (σ 23) (σ 17) (σ 18) (σ 1 7) (rg_ σ)))) := by
  refine mt_of (own := R_T) rfl pl_T (Nat.le_of_ble_eq_true rfl) ?_
  intro zp ze zs zm za zb zt zc F hr hlk
  refine qv_sub (L' := [(0, _), (1, _), (2, _)]) [0, 1, 2] rfl ?_
  refine qv_iconst F (nI 0) d_T_applyCalls_0 ic_0 ?_
  refine qv_istore_n (L' := [(3, _), (0, _), (1, _), (2, _)]) F d_T_applyCalls_1 (by decide) rfl ?_
  have lp := lu_up (fun k (_ : Unit) => vv_ zp l ze (rr_ 3) zs zm za zb zt zc (MQ zb (mq_ X (ev_ (sr_ σ (cs_ σ (σ 23) (σ 17) (σ 18) (σ 1 7) (rg_ σ))))) za zs 0 0 (aw_ X)) X 6 [(3, .int (nI k)), (0, .ref (adr X 3)), (1, .ref (adr X 1)), (2, .ref (adr X 2))] (sr_ σ (cs_ σ (σ 23) (σ 17) (σ 18) k (rg_ σ))) 2 []) (fun _ _ => True) (σ 1 7) ?_ ?_ 0 () (Nat.zero_le _) trivial
  · exact qv_st (sr_rg σ).symm lp
  · intro _ _
    refine qv_iload_n F d_T_applyCalls_2 0 rfl ?_
    refine qv_aload_n F d_T_applyCalls_3 2 rfl ?_
    refine g_T_106 F d_T_applyCalls_4 ?_
    refine qv_icmpge F d_T_applyCalls_7 rfl (show σ 1 7 < 2 ^ 31 by omega) (show σ 1 7 < 2 ^ 31 by omega) (fun hb => ?_) (fun hb => ?_)
    ·
      exact qv_ret F hr hlk d_T_applyCalls_60 (ev_of rfl)
    ·
      exact absurd (show σ 1 7 < σ 1 7 from hb) (by omega)
  · intro k _ hk _ ih
    have ih := ih () trivial
    have t11 := ht.2.2.2.2.2.2.1 k
    have m8 := hb0 k hk
    have hB : B_ (cs_ σ (σ 23) (σ 17) (σ 18) k (rg_ σ)) := cs_B h2 h1
    have e1 : cs_ σ (σ 23) (σ 17) (σ 18) (k + 1) (rg_ σ) = it_ (fun c => pp_ σ (σ 23) k c (σ 18 k + c) (σ 13 k)) (σ 17 (σ 11 k)) (cs_ σ (σ 23) (σ 17) (σ 18) k (rg_ σ)) := rfl
    rw [e1] at ih
    generalize cs_ σ (σ 23) (σ 17) (σ 18) k (rg_ σ) = r at hB ih ⊢
    refine qv_iload_n F d_T_applyCalls_2 0 rfl ?_
    refine qv_aload_n F d_T_applyCalls_3 2 rfl ?_
    refine g_T_106 F d_T_applyCalls_4 ?_
    refine qv_icmpge F d_T_applyCalls_7 rfl (by omega) (show σ 1 7 < 2 ^ 31 by omega) (fun hb => ?_) (fun hb => ?_)
    ·
      exact absurd (show σ 1 7 ≤ k from hb) (by omega)
    ·
      refine qv_aload_n F d_T_applyCalls_10 3 rfl ?_
      refine g_T_68 F d_T_applyCalls_11 ?_
      refine qv_aload_n F d_T_applyCalls_14 2 rfl ?_
      refine g_T_109 F d_T_applyCalls_15 ?_
      refine qv_iload_n F d_T_applyCalls_18 0 rfl ?_
      refine ld_11 F (show k < 8 by omega) d_T_applyCalls_19 ?_
      refine ld_17 F (show σ 11 k < 4 from t11) d_T_applyCalls_20 ?_
      refine qv_istore (L' := [(4, _), (3, _), (0, _), (1, _), (2, _)]) F d_T_applyCalls_21 (by decide) rfl ?_
      refine qv_iconst F (nI 0) d_T_applyCalls_23 ic_0 ?_
      refine qv_istore (L' := [(5, _), (4, _), (3, _), (0, _), (1, _), (2, _)]) F d_T_applyCalls_24 (by decide) rfl ?_
      have lp2 := lu_up (fun c (_ : Unit) => vv_ zp l ze (rr_ 3) zs zm za zb zt zc (MQ zb (mq_ X (ev_ (sr_ σ (cs_ σ (σ 23) (σ 17) (σ 18) (σ 1 7) (rg_ σ))))) za zs 0 0 (aw_ X)) X 6 [(5, .int (nI c)), (4, .int (nI (σ 17 (σ 11 k)))), (3, .int (nI k)), (0, .ref (adr X 3)), (1, .ref (adr X 1)), (2, .ref (adr X 2))] (sr_ σ (it_ (fun c => pp_ σ (σ 23) k c (σ 18 k + c) (σ 13 k)) c r)) 26 []) (fun _ _ => True) (σ 17 (σ 11 k)) ?_ ?_ 0 () (Nat.zero_le _) trivial
      · exact lp2
      · intro _ _
        refine qv_iload F d_T_applyCalls_26 0 rfl ?_
        refine qv_iload F d_T_applyCalls_28 1 rfl ?_
        refine qv_icmpge F d_T_applyCalls_30 rfl (by omega) (by omega) (fun hb => ?_) (fun hb => ?_)
        ·
          refine qv_sub (L' := [(3, _), (0, _), (1, _), (2, _)]) [2, 3, 4, 5] rfl ?_
          refine qv_iinc (L' := [(3, _), (0, _), (1, _), (2, _)]) F _ d_T_applyCalls_54 0 rfl (ii_1 _) (by decide) rfl ?_
          refine qv_goto F d_T_applyCalls_57 rfl ?_
          exact ih
        ·
          omega
      · intro c _ hc _ ih2
        have ih2 := ih2 () trivial
        have hB2 : B_ (it_ (fun c => pp_ σ (σ 23) k c (σ 18 k + c) (σ 13 k)) c r) := it_B (fun _ s hs => pp_B h2 hs) c r hB
        refine qv_iload F d_T_applyCalls_26 0 rfl ?_
        refine qv_iload F d_T_applyCalls_28 1 rfl ?_
        refine qv_icmpge F d_T_applyCalls_30 rfl (by omega) (by omega) (fun hb => ?_) (fun hb => ?_)
        ·
          omega
        ·
          refine qv_aload_n F d_T_applyCalls_33 3 rfl ?_
          refine qv_aload_n F d_T_applyCalls_34 4 rfl ?_
          refine qv_iload_n F d_T_applyCalls_35 2 rfl ?_
          refine qv_iload F d_T_applyCalls_36 0 rfl ?_
          refine qv_aload_n F d_T_applyCalls_38 5 rfl ?_
          refine qv_iload_n F d_T_applyCalls_39 2 rfl ?_
          refine qv_iload F d_T_applyCalls_40 0 rfl ?_
          refine i_T_112i F (c_N_contextBy l X (sr_ σ (it_ (fun c => pp_ σ (σ 23) k c (σ 18 k + c) (σ 13 k)) c r)) k c (by omega)) (by decide) (Nat.le_of_ble_eq_true rfl) d_T_applyCalls_42 ?_
          refine i_T_115v F (c_T_applyPasses l X (sr_ σ (it_ (fun c => pp_ σ (σ 23) k c (σ 18 k + c) (σ 13 k)) c r)) k c (σ 18 k + c) (by omega) (by omega) (by omega) ht hB2 h2) (by decide) (Nat.le_of_ble_eq_true rfl) d_T_applyCalls_45 ?_
          rw [sr_sr]
          refine qv_iinc (L' := [(5, _), (4, _), (3, _), (0, _), (1, _), (2, _)]) F _ d_T_applyCalls_48 0 rfl (ii_1 _) (by decide) rfl ?_
          refine qv_goto F d_T_applyCalls_51 rfl ?_
          exact ih2

