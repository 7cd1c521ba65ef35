/-! the reference: rounds and solve -/
set_option maxRecDepth 100000 in
set_option maxHeartbeats 4000000 in
theorem c_M_carry (l : Launch) (X : wX) (σ : sg) (k c : Nat) (hk : k < 8) (hc : c < 8) (hd0 : σ 44 k + c < 8) (ht : tw_ (mo_ σ)) (h1 : B_ (mg_ σ 0)) : mt_ l X y_M_carry w_M_carry 2 [.ref (adr X 28), .int (nI k), .int (nI c)] σ (ei_ (nI (pp_ (mo_ σ) (ft_ (mo_ σ)) k c (σ 44 k + c) (σ 37 k) (mg_ σ 0)).2.2) (mr_ σ (pp_ (mo_ σ) (ft_ (mo_ σ)) k c (σ 44 k + c) (σ 37 k) (mg_ σ 0)))) := by
  refine mt_of (own := R_M) rfl pl_M (Nat.le_of_ble_eq_true rfl) ?_
  intro zp ze zs zm za zb zt zc F hr hlk
  refine qv_sub (L' := [(0, _), (1, _), (2, _)]) [0, 1, 2] rfl ?_
  have t13 : σ 37 k ≤ 4 := ht.2.2.2.2.2.2.2.2.1 k
  have hw : ∀ k, ft_ (mo_ σ) k < 256 := ft_lt _
  refine qv_iconst F (nI 0) d_M_carry_0 ic_0 ?_
  refine qv_istore_n (L' := [(3, _), (0, _), (1, _), (2, _)]) F d_M_carry_1 (by decide) rfl ?_
  refine qv_aload_n F d_M_carry_2 1 rfl ?_
  refine g_M_56 F d_M_carry_3 ?_
  refine qv_iload_n F d_M_carry_6 2 rfl ?_
  refine ld_44 F (by omega) d_M_carry_7 ?_
  refine qv_iload_n F d_M_carry_8 3 rfl ?_
  refine qv_iadd F d_M_carry_9 ?_
  refine qv_istore (L' := [(4, _), (3, _), (0, _), (1, _), (2, _)]) F d_M_carry_10 (by decide) rfl ?_
  refine qv_iconst F (nI 4) d_M_carry_12 ic_4 ?_
  refine qv_iload_n F d_M_carry_13 3 rfl ?_
  refine qv_imul F d_M_carry_14 ?_
  refine qv_istore (L' := [(5, _), (4, _), (3, _), (0, _), (1, _), (2, _)]) F d_M_carry_15 (by decide) rfl ?_
  have lp := lu_up (fun j (_ : Unit) => vv_ zp l ze (rr_ 2) zs zm za zb zt zc (MQ zb (mq_ X (ei_ (nI (pp_ (mo_ σ) (ft_ (mo_ σ)) k c (σ 44 k + c) (σ 37 k) (mg_ σ 0)).2.2) (mr_ σ (pp_ (mo_ σ) (ft_ (mo_ σ)) k c (σ 44 k + c) (σ 37 k) (mg_ σ 0))))) za zs 0 0 (aw_ X)) X 9 [(5, .int (nI (4 * k + j))), (4, .int (nI (σ 44 k + c))), (3, .int (nI (pp_ (mo_ σ) (ft_ (mo_ σ)) k c (σ 44 k + c) j (mg_ σ 0)).2.2)), (0, .ref (adr X 28)), (1, .int (nI k)), (2, .int (nI c))] (mr_ σ (pp_ (mo_ σ) (ft_ (mo_ σ)) k c (σ 44 k + c) j (mg_ σ 0))) 17 []) (fun _ _ => True) (σ 37 k) ?_ ?_ 0 () (Nat.zero_le _) trivial
  · exact qv_st (mr_mg σ 0).symm lp
  · intro _ _
    have hfl : fl_ (pp_ (mo_ σ) (ft_ (mo_ σ)) k c (σ 44 k + c) (σ 37 k) (mg_ σ 0)) := pp_fl (Or.inl rfl)
    refine qv_iload F d_M_carry_17 0 rfl ?_
    refine qv_iconst F (nI 4) d_M_carry_19 ic_4 ?_
    refine qv_iload_n F d_M_carry_20 4 rfl ?_
    refine qv_imul F d_M_carry_21 ?_
    refine qv_aload_n F d_M_carry_22 3 rfl ?_
    refine g_M_34 F d_M_carry_23 ?_
    refine qv_iload_n F d_M_carry_26 4 rfl ?_
    refine ld_37 F (show k < 8 by omega) d_M_carry_27 ?_
    refine qv_iadd F d_M_carry_28 ?_
    refine qv_icmpge F d_M_carry_29 rfl (by omega) (show 4 * k + σ 37 k < 2 ^ 31 by omega) (fun hb => ?_) (fun hb => ?_)
    ·
      refine qv_iload_n F d_M_carry_122 2 rfl ?_
      exact qv_zret F hr hlk (by rcases hfl with h | h <;> rw [h] <;> first | exact Or.inl rfl | exact Or.inr rfl) d_M_carry_123 (ei_of rfl rfl)
    ·
      exact absurd (show 4 * k + σ 37 k < 4 * k + σ 37 k from hb) (by omega)
  · intro j _ hj _ ih
    have ih := ih () trivial
    have ek : k * 4 + j = 4 * k + j := by omega
    have e1 : pp_ (mo_ σ) (ft_ (mo_ σ)) k c (σ 44 k + c) (j + 1) (mg_ σ 0) = pa_ (mo_ σ) (ft_ (mo_ σ)) c (σ 44 k + c) (k * 4 + j) (pp_ (mo_ σ) (ft_ (mo_ σ)) k c (σ 44 k + c) j (mg_ σ 0)) := rfl
    rw [e1, ek] at ih
    have t14 : σ 38 (4 * k + j) < 16 := ht.2.2.2.2.2.2.2.2.2.1 (4 * k + j)
    have t15 : σ 39 (4 * k + j) < 16 := ht.2.2.2.2.2.2.2.2.2.2.1 (4 * k + j)
    have t16 : σ 40 (4 * k + j) < 2 := ht.2.2.2.2.2.2.2.2.2.2.2 (4 * k + j)
    have hB : B_ (pp_ (mo_ σ) (ft_ (mo_ σ)) k c (σ 44 k + c) j (mg_ σ 0)) := pp_B hw h1
    have hfl : fl_ (pp_ (mo_ σ) (ft_ (mo_ σ)) k c (σ 44 k + c) j (mg_ σ 0)) := pp_fl (Or.inl rfl)
    generalize pp_ (mo_ σ) (ft_ (mo_ σ)) k c (σ 44 k + c) j (mg_ σ 0) = r at ih hB hfl ⊢
    have efp := fq_use (fq_pa (t := mo_ σ) (w := ft_ (mo_ σ)) (c := c) (d := σ 44 k + c) (q := 4 * k + j)) r
    rw [efp] at ih
    have hfe : fl_ (pa_ (mo_ σ) (ft_ (mo_ σ)) c (σ 44 k + c) (4 * k + j) (r.1, r.2.1, 0)) := pa_fl (Or.inl rfl)
    have ew : ft_ (mo_ (mr_ σ r)) = ft_ (mo_ σ) := ft_cg rfl rfl
    have hfl : r.2.2 = 0 ∨ r.2.2 = 1 := hfl
    refine qv_iload F d_M_carry_17 0 rfl ?_
    refine qv_iconst F (nI 4) d_M_carry_19 ic_4 ?_
    refine qv_iload_n F d_M_carry_20 4 rfl ?_
    refine qv_imul F d_M_carry_21 ?_
    refine qv_aload_n F d_M_carry_22 3 rfl ?_
    refine g_M_34 F d_M_carry_23 ?_
    refine qv_iload_n F d_M_carry_26 4 rfl ?_
    refine ld_37 F (show k < 8 by omega) d_M_carry_27 ?_
    refine qv_iadd F d_M_carry_28 ?_
    refine qv_icmpge F d_M_carry_29 rfl (by omega) (show 4 * k + σ 37 k < 2 ^ 31 by omega) (fun hb => ?_) (fun hb => ?_)
    ·
      exact absurd (show 4 * k + σ 37 k ≤ 4 * k + j from hb) (by omega)
    ·
      refine qv_aload_n F d_M_carry_32 3 rfl ?_
      refine g_M_43 F d_M_carry_33 ?_
      refine qv_iload F d_M_carry_36 0 rfl ?_
      refine ld_40 F (by omega) d_M_carry_38 ?_
      refine qv_ifeq F d_M_carry_39 rfl (show σ 40 (4 * k + j) < 2 ^ 31 by omega) (fun hb => ?_) (fun hb => ?_)
      ·
        have hz : σ 40 (4 * k + j) = 0 := hb
        have ep : pa_ (mo_ σ) (ft_ (mo_ σ)) c (σ 44 k + c) (4 * k + j) (r.1, r.2.1, 0) = ad_ (ft_ (mo_ σ)) (σ 44 k + c) (σ 38 (4 * k + j)) (r.1 (c * 16 + σ 39 (4 * k + j))) (r.1, r.2.1, 0) := by unfold pa_; rw [if_pos (show mo_ σ 16 (4 * k + j) = 0 from hz)]; rfl
        refine qv_iload_n F d_M_carry_47 5 rfl ?_
        refine qv_istore (L' := [(6, _), (5, _), (4, _), (3, _), (0, _), (1, _), (2, _)]) F d_M_carry_48 (by decide) rfl ?_
        refine qv_aload_n F d_M_carry_50 4 rfl ?_
        refine g_M_43 F d_M_carry_51 ?_
        refine qv_iload F d_M_carry_54 1 rfl ?_
        refine ld_40 F (by omega) d_M_carry_56 ?_
        refine qv_ifeq F d_M_carry_57 rfl (show σ 40 (4 * k + j) < 2 ^ 31 by omega) (fun hb => ?_) (fun hb => ?_)
        ·
          refine qv_iload F d_M_carry_64 2 rfl ?_
          refine qv_istore (L' := [(7, _), (6, _), (5, _), (4, _), (3, _), (0, _), (1, _), (2, _)]) F d_M_carry_66 (by decide) rfl ?_
          refine qv_aload_n F d_M_carry_68 5 rfl ?_
          refine qv_iload F d_M_carry_69 0 rfl ?_
          refine qv_aload_n F d_M_carry_71 5 rfl ?_
          refine g_M_37 F d_M_carry_72 ?_
          refine qv_iload F d_M_carry_75 2 rfl ?_
          refine ld_38 F (by omega) d_M_carry_77 ?_
          refine qv_aload_n F d_M_carry_78 5 rfl ?_
          refine g_M_62 F d_M_carry_79 ?_
          refine qv_bipush F (nI 16) d_M_carry_82 bic_16 ?_
          refine qv_iload F d_M_carry_84 1 rfl ?_
          refine qv_imul F d_M_carry_86 ?_
          refine qv_aload_n F d_M_carry_87 5 rfl ?_
          refine g_M_40 F d_M_carry_88 ?_
          refine qv_iload F d_M_carry_91 2 rfl ?_
          refine ld_39 F (by omega) d_M_carry_93 ?_
          refine qv_iadd F d_M_carry_94 ?_
          refine ld_46 F (show 16 * c + σ 39 (4 * k + j) < 128 by omega) d_M_carry_95 ?_
          have ec : 16 * c = c * 16 := by omega
          rw [ec]
          refine i_M_104i F (c_M_more l X (mr_ σ r) (σ 44 k + c) (σ 38 (4 * k + j)) (r.1 (c * 16 + σ 39 (4 * k + j))) hd0 t14 hB.1 ht.1 ht.2.1) (by decide) (Nat.le_of_ble_eq_true rfl) d_M_carry_96 ?_
          rw [ew, mr_mr]
          refine qv_st (σ' := mr_ σ (pa_ (mo_ σ) (ft_ (mo_ σ)) c (σ 44 k + c) (4 * k + j) (r.1, r.2.1, 0))) (by rw [ep]; rfl) ?_
          refine qv_stk (st' := [.int (nI (pa_ (mo_ σ) (ft_ (mo_ σ)) c (σ 44 k + c) (4 * k + j) (r.1, r.2.1, 0)).2.2)]) (by rw [ep]; rfl) ?_
          generalize pa_ (mo_ σ) (ft_ (mo_ σ)) c (σ 44 k + c) (4 * k + j) (r.1, r.2.1, 0) = u at ih hfe ⊢
          have hfe : u.2.2 = 0 ∨ u.2.2 = 1 := hfe
          refine qv_istore (L' := [(8, _), (7, _), (6, _), (5, _), (4, _), (3, _), (0, _), (1, _), (2, _)]) F d_M_carry_99 (by decide) rfl ?_
          refine qv_iload_n F d_M_carry_101 5 rfl ?_
          refine qv_ifne F d_M_carry_102 rfl (by omega) (fun hb => ?_) (fun hb => ?_)
          ·
            rw [show r.2.2 = 1 by omega, fg_1] at ih
            refine qv_iconst F (nI 1) d_M_carry_110 ic_1 ?_
            refine qv_goto F d_M_carry_111 rfl ?_
            refine qv_istore_n (L' := [(3, _), (8, _), (7, _), (6, _), (5, _), (4, _), (0, _), (1, _), (2, _)]) F d_M_carry_115 (by decide) rfl ?_
            refine qv_sub (L' := [(5, _), (4, _), (3, _), (0, _), (1, _), (2, _)]) [4, 5, 0, 6, 7, 8] rfl ?_
            refine qv_iinc (L' := [(5, _), (4, _), (3, _), (0, _), (1, _), (2, _)]) F _ d_M_carry_116 0 rfl (ii_1 _) (by decide) rfl ?_
            refine qv_goto F d_M_carry_119 rfl ?_
            exact ih
          ·
            have hg0 := hb
            rw [hg0] at ih
            refine qv_iload F d_M_carry_105 0 rfl ?_
            refine qv_ifeq F d_M_carry_107 rfl (by omega) (fun hb => ?_) (fun hb => ?_)
            ·
              rw [if_pos hb] at ih
              refine qv_iconst F (nI 0) d_M_carry_114 ic_0 ?_
              refine qv_istore_n (L' := [(3, _), (8, _), (7, _), (6, _), (5, _), (4, _), (0, _), (1, _), (2, _)]) F d_M_carry_115 (by decide) rfl ?_
              refine qv_sub (L' := [(5, _), (4, _), (3, _), (0, _), (1, _), (2, _)]) [4, 5, 0, 6, 7, 8] rfl ?_
              refine qv_iinc (L' := [(5, _), (4, _), (3, _), (0, _), (1, _), (2, _)]) F _ d_M_carry_116 0 rfl (ii_1 _) (by decide) rfl ?_
              refine qv_goto F d_M_carry_119 rfl ?_
              exact ih
            ·
              rw [if_neg hb] at ih
              refine qv_iconst F (nI 1) d_M_carry_110 ic_1 ?_
              refine qv_goto F d_M_carry_111 rfl ?_
              refine qv_istore_n (L' := [(3, _), (8, _), (7, _), (6, _), (5, _), (4, _), (0, _), (1, _), (2, _)]) F d_M_carry_115 (by decide) rfl ?_
              refine qv_sub (L' := [(5, _), (4, _), (3, _), (0, _), (1, _), (2, _)]) [4, 5, 0, 6, 7, 8] rfl ?_
              refine qv_iinc (L' := [(5, _), (4, _), (3, _), (0, _), (1, _), (2, _)]) F _ d_M_carry_116 0 rfl (ii_1 _) (by decide) rfl ?_
              refine qv_goto F d_M_carry_119 rfl ?_
              exact ih
        ·
          exact absurd hz hb
      ·
        have hz : ¬ σ 40 (4 * k + j) = 0 := hb
        have ep : pa_ (mo_ σ) (ft_ (mo_ σ)) c (σ 44 k + c) (4 * k + j) (r.1, r.2.1, 0) = ad_ (ft_ (mo_ σ)) c (σ 38 (4 * k + j)) (r.1 ((σ 44 k + c) * 16 + σ 39 (4 * k + j))) (r.1, r.2.1, 0) := by unfold pa_; rw [if_neg (show ¬ mo_ σ 16 (4 * k + j) = 0 from hz)]; rfl
        refine qv_iload F d_M_carry_42 1 rfl ?_
        refine qv_goto F d_M_carry_44 rfl ?_
        refine qv_istore (L' := [(6, _), (5, _), (4, _), (3, _), (0, _), (1, _), (2, _)]) F d_M_carry_48 (by decide) rfl ?_
        refine qv_aload_n F d_M_carry_50 4 rfl ?_
        refine g_M_43 F d_M_carry_51 ?_
        refine qv_iload F d_M_carry_54 1 rfl ?_
        refine ld_40 F (by omega) d_M_carry_56 ?_
        refine qv_ifeq F d_M_carry_57 rfl (show σ 40 (4 * k + j) < 2 ^ 31 by omega) (fun hb => ?_) (fun hb => ?_)
        ·
          exact absurd hb hz
        ·
          refine qv_iload_n F d_M_carry_60 6 rfl ?_
          refine qv_goto F d_M_carry_61 rfl ?_
          refine qv_istore (L' := [(7, _), (6, _), (5, _), (4, _), (3, _), (0, _), (1, _), (2, _)]) F d_M_carry_66 (by decide) rfl ?_
          refine qv_aload_n F d_M_carry_68 5 rfl ?_
          refine qv_iload F d_M_carry_69 0 rfl ?_
          refine qv_aload_n F d_M_carry_71 5 rfl ?_
          refine g_M_37 F d_M_carry_72 ?_
          refine qv_iload F d_M_carry_75 2 rfl ?_
          refine ld_38 F (by omega) d_M_carry_77 ?_
          refine qv_aload_n F d_M_carry_78 5 rfl ?_
          refine g_M_62 F d_M_carry_79 ?_
          refine qv_bipush F (nI 16) d_M_carry_82 bic_16 ?_
          refine qv_iload F d_M_carry_84 1 rfl ?_
          refine qv_imul F d_M_carry_86 ?_
          refine qv_aload_n F d_M_carry_87 5 rfl ?_
          refine g_M_40 F d_M_carry_88 ?_
          refine qv_iload F d_M_carry_91 2 rfl ?_
          refine ld_39 F (by omega) d_M_carry_93 ?_
          refine qv_iadd F d_M_carry_94 ?_
          refine ld_46 F (show 16 * (σ 44 k + c) + σ 39 (4 * k + j) < 128 by omega) d_M_carry_95 ?_
          have ec : 16 * (σ 44 k + c) = (σ 44 k + c) * 16 := by omega
          rw [ec]
          refine i_M_104i F (c_M_more l X (mr_ σ r) c (σ 38 (4 * k + j)) (r.1 ((σ 44 k + c) * 16 + σ 39 (4 * k + j))) hc t14 hB.1 ht.1 ht.2.1) (by decide) (Nat.le_of_ble_eq_true rfl) d_M_carry_96 ?_
          rw [ew, mr_mr]
          refine qv_st (σ' := mr_ σ (pa_ (mo_ σ) (ft_ (mo_ σ)) c (σ 44 k + c) (4 * k + j) (r.1, r.2.1, 0))) (by rw [ep]; rfl) ?_
          refine qv_stk (st' := [.int (nI (pa_ (mo_ σ) (ft_ (mo_ σ)) c (σ 44 k + c) (4 * k + j) (r.1, r.2.1, 0)).2.2)]) (by rw [ep]; rfl) ?_
          generalize pa_ (mo_ σ) (ft_ (mo_ σ)) c (σ 44 k + c) (4 * k + j) (r.1, r.2.1, 0) = u at ih hfe ⊢
          have hfe : u.2.2 = 0 ∨ u.2.2 = 1 := hfe
          refine qv_istore (L' := [(8, _), (7, _), (6, _), (5, _), (4, _), (3, _), (0, _), (1, _), (2, _)]) F d_M_carry_99 (by decide) rfl ?_
          refine qv_iload_n F d_M_carry_101 5 rfl ?_
          refine qv_ifne F d_M_carry_102 rfl (by omega) (fun hb => ?_) (fun hb => ?_)
          ·
            rw [show r.2.2 = 1 by omega, fg_1] at ih
            refine qv_iconst F (nI 1) d_M_carry_110 ic_1 ?_
            refine qv_goto F d_M_carry_111 rfl ?_
            refine qv_istore_n (L' := [(3, _), (8, _), (7, _), (6, _), (5, _), (4, _), (0, _), (1, _), (2, _)]) F d_M_carry_115 (by decide) rfl ?_
            refine qv_sub (L' := [(5, _), (4, _), (3, _), (0, _), (1, _), (2, _)]) [4, 5, 0, 6, 7, 8] rfl ?_
            refine qv_iinc (L' := [(5, _), (4, _), (3, _), (0, _), (1, _), (2, _)]) F _ d_M_carry_116 0 rfl (ii_1 _) (by decide) rfl ?_
            refine qv_goto F d_M_carry_119 rfl ?_
            exact ih
          ·
            have hg0 := hb
            rw [hg0] at ih
            refine qv_iload F d_M_carry_105 0 rfl ?_
            refine qv_ifeq F d_M_carry_107 rfl (by omega) (fun hb => ?_) (fun hb => ?_)
            ·
              rw [if_pos hb] at ih
              refine qv_iconst F (nI 0) d_M_carry_114 ic_0 ?_
              refine qv_istore_n (L' := [(3, _), (8, _), (7, _), (6, _), (5, _), (4, _), (0, _), (1, _), (2, _)]) F d_M_carry_115 (by decide) rfl ?_
              refine qv_sub (L' := [(5, _), (4, _), (3, _), (0, _), (1, _), (2, _)]) [4, 5, 0, 6, 7, 8] rfl ?_
              refine qv_iinc (L' := [(5, _), (4, _), (3, _), (0, _), (1, _), (2, _)]) F _ d_M_carry_116 0 rfl (ii_1 _) (by decide) rfl ?_
              refine qv_goto F d_M_carry_119 rfl ?_
              exact ih
            ·
              rw [if_neg hb] at ih
              refine qv_iconst F (nI 1) d_M_carry_110 ic_1 ?_
              refine qv_goto F d_M_carry_111 rfl ?_
              refine qv_istore_n (L' := [(3, _), (8, _), (7, _), (6, _), (5, _), (4, _), (0, _), (1, _), (2, _)]) F d_M_carry_115 (by decide) rfl ?_
              refine qv_sub (L' := [(5, _), (4, _), (3, _), (0, _), (1, _), (2, _)]) [4, 5, 0, 6, 7, 8] rfl ?_
              refine qv_iinc (L' := [(5, _), (4, _), (3, _), (0, _), (1, _), (2, _)]) F _ d_M_carry_116 0 rfl (ii_1 _) (by decide) rfl ?_
              refine qv_goto F d_M_carry_119 rfl ?_
              exact ih
set_option maxRecDepth 100000 in
set_option maxHeartbeats 4000000 in
theorem c_M_round (l : Launch) (X : wX) (σ : sg) (hn : σ 28 2 ≤ 40) (hnc : σ 28 7 ≤ 8) (hm : ∀ k, σ 43 k ≤ 8) (hb0 : ∀ k, k < σ 28 7 → σ 44 k + σ 43 (σ 35 k) ≤ 8) (ht : tw_ (mo_ σ)) (h1 : B_ (mg_ σ 0)) : mt_ l X y_M_round w_M_round 3 [.ref (adr X 28)] σ (ei_ (nI (rd_ (mo_ σ) (ft_ (mo_ σ)) (σ 43) (σ 44) (σ 28 2) (σ 28 7) (mg_ σ 0)).2.2) (mr_ σ (rd_ (mo_ σ) (ft_ (mo_ σ)) (σ 43) (σ 44) (σ 28 2) (σ 28 7) (mg_ σ 0)))) := by
  refine mt_of (own := R_M) rfl pl_M (Nat.le_of_ble_eq_true rfl) ?_
  intro zp ze zs zm za zb zt zc F hr hlk
  refine qv_sub (L' := [(0, _)]) [0] rfl ?_
  have hw : ∀ k, ft_ (mo_ σ) k < 256 := ft_lt _
  refine qv_iconst F (nI 0) d_M_round_0 ic_0 ?_
  refine qv_istore_n (L' := [(1, _), (0, _)]) F d_M_round_1 (by decide) rfl ?_
  refine qv_iconst F (nI 0) d_M_round_2 ic_0 ?_
  refine qv_istore_n (L' := [(2, _), (1, _), (0, _)]) F d_M_round_3 (by decide) rfl ?_
  have lp := lu_up (fun k (_ : Unit) => vv_ zp l ze (rr_ 3) zs zm za zb zt zc (MQ zb (mq_ X (ei_ (nI (rd_ (mo_ σ) (ft_ (mo_ σ)) (σ 43) (σ 44) (σ 28 2) (σ 28 7) (mg_ σ 0)).2.2) (mr_ σ (rd_ (mo_ σ) (ft_ (mo_ σ)) (σ 43) (σ 44) (σ 28 2) (σ 28 7) (mg_ σ 0))))) za zs 0 0 (aw_ X)) X 5 [(2, .int (nI k)), (1, .int (nI (ss_ (mo_ σ) (ft_ (mo_ σ)) (σ 43) k (mg_ σ 0)).2.2)), (0, .ref (adr X 28))] (mr_ σ (ss_ (mo_ σ) (ft_ (mo_ σ)) (σ 43) k (mg_ σ 0))) 4 []) (fun _ _ => True) (σ 28 2) ?_ ?_ 0 () (Nat.zero_le _) trivial
  · exact qv_st (mr_mg σ 0).symm lp
  · intro _ _
    have hBs : B_ (ss_ (mo_ σ) (ft_ (mo_ σ)) (σ 43) (σ 28 2) (mg_ σ 0)) := ss_B hw h1
    have hfs : fl_ (ss_ (mo_ σ) (ft_ (mo_ σ)) (σ 43) (σ 28 2) (mg_ σ 0)) := ss_fl (Or.inl rfl)
    have er : rd_ (mo_ σ) (ft_ (mo_ σ)) (σ 43) (σ 44) (σ 28 2) (σ 28 7) (mg_ σ 0) = cs_ (mo_ σ) (ft_ (mo_ σ)) (σ 43) (σ 44) (σ 28 7) (ss_ (mo_ σ) (ft_ (mo_ σ)) (σ 43) (σ 28 2) (mg_ σ 0)) := rfl
    rw [er]
    generalize ss_ (mo_ σ) (ft_ (mo_ σ)) (σ 43) (σ 28 2) (mg_ σ 0) = s0 at hBs hfs ⊢
    refine qv_iload_n F d_M_round_4 0 rfl ?_
    refine qv_aload_n F d_M_round_5 2 rfl ?_
    refine g_M_75 F d_M_round_6 ?_
    refine qv_icmpge F d_M_round_9 rfl (show σ 28 2 < 2 ^ 31 by omega) (show σ 28 2 < 2 ^ 31 by omega) (fun hb => ?_) (fun hb => ?_)
    ·
      refine qv_iconst F (nI 0) d_M_round_66 ic_0 ?_
      refine qv_istore_n (L' := [(2, _), (1, _), (0, _)]) F d_M_round_67 (by decide) rfl ?_
      have lpc := lu_up (fun k (_ : Unit) => vv_ zp l ze (rr_ 3) zs zm za zb zt zc (MQ zb (mq_ X (ei_ (nI (cs_ (mo_ σ) (ft_ (mo_ σ)) (σ 43) (σ 44) (σ 28 7) s0).2.2) (mr_ σ (cs_ (mo_ σ) (ft_ (mo_ σ)) (σ 43) (σ 44) (σ 28 7) s0)))) za zs 0 0 (aw_ X)) X 5 [(2, .int (nI k)), (1, .int (nI (cs_ (mo_ σ) (ft_ (mo_ σ)) (σ 43) (σ 44) k s0).2.2)), (0, .ref (adr X 28))] (mr_ σ (cs_ (mo_ σ) (ft_ (mo_ σ)) (σ 43) (σ 44) k s0)) 68 []) (fun _ _ => True) (σ 28 7) ?_ ?_ 0 () (Nat.zero_le _) trivial
      · exact lpc
      · intro _ _
        have hfl : fl_ (cs_ (mo_ σ) (ft_ (mo_ σ)) (σ 43) (σ 44) (σ 28 7) s0) := cs_fl hfs
        refine qv_iload_n F d_M_round_68 0 rfl ?_
        refine qv_aload_n F d_M_round_69 2 rfl ?_
        refine g_M_86 F d_M_round_70 ?_
        refine qv_icmpge F d_M_round_73 rfl (show σ 28 7 < 2 ^ 31 by omega) (show σ 28 7 < 2 ^ 31 by omega) (fun hb => ?_) (fun hb => ?_)
        ·
          refine qv_iload_n F d_M_round_128 1 rfl ?_
          exact qv_zret F hr hlk (by rcases hfl with h | h <;> rw [h] <;> first | exact Or.inl rfl | exact Or.inr rfl) d_M_round_129 (ei_of rfl rfl)
        ·
          exact absurd (show σ 28 7 < σ 28 7 from hb) (by omega)
      · intro k _ hk _ ih
        have ih := ih () trivial
        have t11 : σ 35 k < 4 := ht.2.2.2.2.2.2.1 k
        have m8 := hb0 k hk
        have hB : B_ (cs_ (mo_ σ) (ft_ (mo_ σ)) (σ 43) (σ 44) k s0) := cs_B hw hBs
        have hf : fl_ (cs_ (mo_ σ) (ft_ (mo_ σ)) (σ 43) (σ 44) k s0) := cs_fl hfs
        have e1 : cs_ (mo_ σ) (ft_ (mo_ σ)) (σ 43) (σ 44) (k + 1) s0 = it_ (fun c => pp_ (mo_ σ) (ft_ (mo_ σ)) k c (σ 44 k + c) (σ 37 k)) (σ 43 (σ 35 k)) (cs_ (mo_ σ) (ft_ (mo_ σ)) (σ 43) (σ 44) k s0) := rfl
        rw [e1] at ih
        generalize cs_ (mo_ σ) (ft_ (mo_ σ)) (σ 43) (σ 44) k s0 = r at hB hf ih ⊢
        refine qv_iload_n F d_M_round_68 0 rfl ?_
        refine qv_aload_n F d_M_round_69 2 rfl ?_
        refine g_M_86 F d_M_round_70 ?_
        refine qv_icmpge F d_M_round_73 rfl (by omega) (show σ 28 7 < 2 ^ 31 by omega) (fun hb => ?_) (fun hb => ?_)
        ·
          exact absurd (show σ 28 7 ≤ k from hb) (by omega)
        ·
          refine qv_iconst F (nI 0) d_M_round_76 ic_0 ?_
          refine qv_istore_n (L' := [(3, _), (2, _), (1, _), (0, _)]) F d_M_round_77 (by decide) rfl ?_
          have lp2 := lu_up (fun c (_ : Unit) => vv_ zp l ze (rr_ 3) zs zm za zb zt zc (MQ zb (mq_ X (ei_ (nI (cs_ (mo_ σ) (ft_ (mo_ σ)) (σ 43) (σ 44) (σ 28 7) s0).2.2) (mr_ σ (cs_ (mo_ σ) (ft_ (mo_ σ)) (σ 43) (σ 44) (σ 28 7) s0)))) za zs 0 0 (aw_ X)) X 5 [(3, .int (nI c)), (2, .int (nI k)), (1, .int (nI (it_ (fun c => pp_ (mo_ σ) (ft_ (mo_ σ)) k c (σ 44 k + c) (σ 37 k)) c r).2.2)), (0, .ref (adr X 28))] (mr_ σ (it_ (fun c => pp_ (mo_ σ) (ft_ (mo_ σ)) k c (σ 44 k + c) (σ 37 k)) c r)) 78 []) (fun _ _ => True) (σ 43 (σ 35 k)) ?_ ?_ 0 () (Nat.zero_le _) trivial
          · exact lp2
          · intro _ _
            refine qv_iload_n F d_M_round_78 0 rfl ?_
            refine qv_aload_n F d_M_round_79 3 rfl ?_
            refine g_M_53 F d_M_round_80 ?_
            refine qv_aload_n F d_M_round_83 3 rfl ?_
            refine g_M_28 F d_M_round_84 ?_
            refine qv_iload_n F d_M_round_87 1 rfl ?_
            refine ld_35 F (show k < 8 by omega) d_M_round_88 ?_
            refine ld_43 F t11 d_M_round_89 ?_
            refine qv_icmpge F d_M_round_90 rfl (show σ 43 (σ 35 k) < 2 ^ 31 by omega) (show σ 43 (σ 35 k) < 2 ^ 31 by omega) (fun hb => ?_) (fun hb => ?_)
            ·
              refine qv_sub (L' := [(2, _), (1, _), (0, _)]) [1, 2, 3] rfl ?_
              refine qv_iinc (L' := [(2, _), (1, _), (0, _)]) F _ d_M_round_122 0 rfl (ii_1 _) (by decide) rfl ?_
              refine qv_goto F d_M_round_125 rfl ?_
              exact ih
            ·
              exact absurd (show σ 43 (σ 35 k) < σ 43 (σ 35 k) from hb) (by omega)
          · intro c _ hc _ ih2
            have ih2 := ih2 () trivial
            have e2 : it_ (fun c => pp_ (mo_ σ) (ft_ (mo_ σ)) k c (σ 44 k + c) (σ 37 k)) (c + 1) r = pp_ (mo_ σ) (ft_ (mo_ σ)) k c (σ 44 k + c) (σ 37 k) (it_ (fun c => pp_ (mo_ σ) (ft_ (mo_ σ)) k c (σ 44 k + c) (σ 37 k)) c r) := rfl
            rw [e2] at ih2
            have hB2 : B_ (it_ (fun c => pp_ (mo_ σ) (ft_ (mo_ σ)) k c (σ 44 k + c) (σ 37 k)) c r) := it_B (fun _ s hs => pp_B hw hs) c r hB
            have hf2 : fl_ (it_ (fun c => pp_ (mo_ σ) (ft_ (mo_ σ)) k c (σ 44 k + c) (σ 37 k)) c r) := it_fl (fun _ s hs => pp_fl hs) c r hf
            generalize it_ (fun c => pp_ (mo_ σ) (ft_ (mo_ σ)) k c (σ 44 k + c) (σ 37 k)) c r = y at hB2 hf2 ih2 ⊢
            rw [fq_use (fq_pp (t := mo_ σ) (w := ft_ (mo_ σ)) (k := k) (c := c) (d := σ 44 k + c) (n := σ 37 k)) y] at ih2
            have hfe : fl_ (pp_ (mo_ σ) (ft_ (mo_ σ)) k c (σ 44 k + c) (σ 37 k) (y.1, y.2.1, 0)) := pp_fl (Or.inl rfl)
            have ew : ft_ (mo_ (mr_ σ y)) = ft_ (mo_ σ) := ft_cg rfl rfl
            have ep : pp_ (mo_ (mr_ σ y)) = pp_ (mo_ σ) := by
              funext w k c d n s
              unfold pp_
              rw [pa_cg (t := mo_ (mr_ σ y)) (t' := mo_ σ) rfl rfl rfl]
            have hf2 : y.2.2 = 0 ∨ y.2.2 = 1 := hf2
            have hB0 : B_ (mg_ (mr_ σ y) 0) := hB2
            refine qv_iload_n F d_M_round_78 0 rfl ?_
            refine qv_aload_n F d_M_round_79 3 rfl ?_
            refine g_M_53 F d_M_round_80 ?_
            refine qv_aload_n F d_M_round_83 3 rfl ?_
            refine g_M_28 F d_M_round_84 ?_
            refine qv_iload_n F d_M_round_87 1 rfl ?_
            refine ld_35 F (show k < 8 by omega) d_M_round_88 ?_
            refine ld_43 F t11 d_M_round_89 ?_
            refine qv_icmpge F d_M_round_90 rfl (by omega) (show σ 43 (σ 35 k) < 2 ^ 31 by omega) (fun hb => ?_) (fun hb => ?_)
            ·
              exact absurd (show σ 43 (σ 35 k) ≤ c from hb) (by omega)
            ·
              refine qv_aload_n F d_M_round_93 3 rfl ?_
              refine qv_iload_n F d_M_round_94 1 rfl ?_
              refine qv_iload_n F d_M_round_95 0 rfl ?_
              refine i_M_117i F (c_M_carry l X (mr_ σ y) k c (by omega) (by omega) (show σ 44 k + c < 8 by omega) ht hB0) (by decide) (Nat.le_of_ble_eq_true rfl) d_M_round_96 ?_
              rw [ew, ep, mr_mr]
              refine qv_st (σ' := mr_ σ (pp_ (mo_ σ) (ft_ (mo_ σ)) k c (σ 44 k + c) (σ 37 k) (y.1, y.2.1, 0))) rfl ?_
              refine qv_stk (st' := [.int (nI (pp_ (mo_ σ) (ft_ (mo_ σ)) k c (σ 44 k + c) (σ 37 k) (y.1, y.2.1, 0)).2.2)]) rfl ?_
              generalize pp_ (mo_ σ) (ft_ (mo_ σ)) k c (σ 44 k + c) (σ 37 k) (y.1, y.2.1, 0) = u at ih2 hfe ⊢
              have hfe : u.2.2 = 0 ∨ u.2.2 = 1 := hfe
              refine qv_istore (L' := [(4, _), (3, _), (2, _), (1, _), (0, _)]) F d_M_round_99 (by decide) rfl ?_
              refine qv_iload_n F d_M_round_101 3 rfl ?_
              refine qv_ifne F d_M_round_102 rfl (by omega) (fun hb => ?_) (fun hb => ?_)
              ·
                rw [show y.2.2 = 1 by omega, fg_1] at ih2
                refine qv_iconst F (nI 1) d_M_round_110 ic_1 ?_
                refine qv_goto F d_M_round_111 rfl ?_
                refine qv_istore_n (L' := [(1, _), (4, _), (3, _), (2, _), (0, _)]) F d_M_round_115 (by decide) rfl ?_
                refine qv_sub (L' := [(3, _), (2, _), (1, _), (0, _)]) [2, 3, 0, 4] rfl ?_
                refine qv_iinc (L' := [(3, _), (2, _), (1, _), (0, _)]) F _ d_M_round_116 0 rfl (ii_1 _) (by decide) rfl ?_
                refine qv_goto F d_M_round_119 rfl ?_
                exact ih2
              ·
                have hg0 := hb
                rw [hg0] at ih2
                refine qv_iload F d_M_round_105 0 rfl ?_
                refine qv_ifeq F d_M_round_107 rfl (by omega) (fun hb => ?_) (fun hb => ?_)
                ·
                  rw [if_pos hb] at ih2
                  refine qv_iconst F (nI 0) d_M_round_114 ic_0 ?_
                  refine qv_istore_n (L' := [(1, _), (4, _), (3, _), (2, _), (0, _)]) F d_M_round_115 (by decide) rfl ?_
                  refine qv_sub (L' := [(3, _), (2, _), (1, _), (0, _)]) [2, 3, 0, 4] rfl ?_
                  refine qv_iinc (L' := [(3, _), (2, _), (1, _), (0, _)]) F _ d_M_round_116 0 rfl (ii_1 _) (by decide) rfl ?_
                  refine qv_goto F d_M_round_119 rfl ?_
                  exact ih2
                ·
                  rw [if_neg hb] at ih2
                  refine qv_iconst F (nI 1) d_M_round_110 ic_1 ?_
                  refine qv_goto F d_M_round_111 rfl ?_
                  refine qv_istore_n (L' := [(1, _), (4, _), (3, _), (2, _), (0, _)]) F d_M_round_115 (by decide) rfl ?_
                  refine qv_sub (L' := [(3, _), (2, _), (1, _), (0, _)]) [2, 3, 0, 4] rfl ?_
                  refine qv_iinc (L' := [(3, _), (2, _), (1, _), (0, _)]) F _ d_M_round_116 0 rfl (ii_1 _) (by decide) rfl ?_
                  refine qv_goto F d_M_round_119 rfl ?_
                  exact ih2
    ·
      exact absurd (show σ 28 2 < σ 28 2 from hb) (by omega)
  · intro k _ hk _ ih
    have ih := ih () trivial
    have t8 : σ 32 k < 16 := ht.2.2.2.1 k
    have m8 := hm (σ 32 k / 4)
    have hB : B_ (ss_ (mo_ σ) (ft_ (mo_ σ)) (σ 43) k (mg_ σ 0)) := ss_B hw h1
    have hf : fl_ (ss_ (mo_ σ) (ft_ (mo_ σ)) (σ 43) k (mg_ σ 0)) := ss_fl (Or.inl rfl)
    have e1 : ss_ (mo_ σ) (ft_ (mo_ σ)) (σ 43) (k + 1) (mg_ σ 0) = it_ (sx_ (mo_ σ) (ft_ (mo_ σ)) k) (σ 43 (σ 32 k / 4)) (ss_ (mo_ σ) (ft_ (mo_ σ)) (σ 43) k (mg_ σ 0)) := rfl
    rw [e1] at ih
    generalize ss_ (mo_ σ) (ft_ (mo_ σ)) (σ 43) k (mg_ σ 0) = r at hB hf ih ⊢
    refine qv_iload_n F d_M_round_4 0 rfl ?_
    refine qv_aload_n F d_M_round_5 2 rfl ?_
    refine g_M_75 F d_M_round_6 ?_
    refine qv_icmpge F d_M_round_9 rfl (by omega) (show σ 28 2 < 2 ^ 31 by omega) (fun hb => ?_) (fun hb => ?_)
    ·
      exact absurd (show σ 28 2 ≤ k from hb) (by omega)
    ·
      refine qv_iconst F (nI 0) d_M_round_12 ic_0 ?_
      refine qv_istore_n (L' := [(3, _), (2, _), (1, _), (0, _)]) F d_M_round_13 (by decide) rfl ?_
      have lp2 := lu_up (fun c (_ : Unit) => vv_ zp l ze (rr_ 3) zs zm za zb zt zc (MQ zb (mq_ X (ei_ (nI (rd_ (mo_ σ) (ft_ (mo_ σ)) (σ 43) (σ 44) (σ 28 2) (σ 28 7) (mg_ σ 0)).2.2) (mr_ σ (rd_ (mo_ σ) (ft_ (mo_ σ)) (σ 43) (σ 44) (σ 28 2) (σ 28 7) (mg_ σ 0))))) za zs 0 0 (aw_ X)) X 5 [(3, .int (nI c)), (2, .int (nI k)), (1, .int (nI (it_ (sx_ (mo_ σ) (ft_ (mo_ σ)) k) c r).2.2)), (0, .ref (adr X 28))] (mr_ σ (it_ (sx_ (mo_ σ) (ft_ (mo_ σ)) k) c r)) 14 []) (fun _ _ => True) (σ 43 (σ 32 k / 4)) ?_ ?_ 0 () (Nat.zero_le _) trivial
      · exact lp2
      · intro _ _
        refine qv_iload_n F d_M_round_14 0 rfl ?_
        refine qv_aload_n F d_M_round_15 3 rfl ?_
        refine g_M_53 F d_M_round_16 ?_
        refine qv_aload_n F d_M_round_19 3 rfl ?_
        refine g_M_19 F d_M_round_20 ?_
        refine qv_iload_n F d_M_round_23 1 rfl ?_
        refine ld_32 F (show k < 40 by omega) d_M_round_24 ?_
        refine qv_iconst F (nI 4) d_M_round_25 ic_4 ?_
        refine qv_idiv F d_M_round_26 (show σ 32 k < 2 ^ 31 by omega) (by decide) (by decide) ?_
        refine ld_43 F (show σ 32 k / 4 < 4 by omega) d_M_round_27 ?_
        refine qv_icmpge F d_M_round_28 rfl (show σ 43 (σ 32 k / 4) < 2 ^ 31 by omega) (show σ 43 (σ 32 k / 4) < 2 ^ 31 by omega) (fun hb => ?_) (fun hb => ?_)
        ·
          refine qv_sub (L' := [(2, _), (1, _), (0, _)]) [1, 2, 3] rfl ?_
          refine qv_iinc (L' := [(2, _), (1, _), (0, _)]) F _ d_M_round_60 0 rfl (ii_1 _) (by decide) rfl ?_
          refine qv_goto F d_M_round_63 rfl ?_
          exact ih
        ·
          exact absurd (show σ 43 (σ 32 k / 4) < σ 43 (σ 32 k / 4) from hb) (by omega)
      · intro c _ hc _ ih2
        have ih2 := ih2 () trivial
        have e2 : it_ (sx_ (mo_ σ) (ft_ (mo_ σ)) k) (c + 1) r = sx_ (mo_ σ) (ft_ (mo_ σ)) k c (it_ (sx_ (mo_ σ) (ft_ (mo_ σ)) k) c r) := rfl
        rw [e2] at ih2
        have hB2 : B_ (it_ (sx_ (mo_ σ) (ft_ (mo_ σ)) k) c r) := it_B (fun _ s hs => sx_B hw hs) c r hB
        have hf2 : fl_ (it_ (sx_ (mo_ σ) (ft_ (mo_ σ)) k) c r) := it_fl (fun _ s hs => sx_fl hs) c r hf
        generalize it_ (sx_ (mo_ σ) (ft_ (mo_ σ)) k) c r = y at hB2 hf2 ih2 ⊢
        rw [fq_use (fq_sx (t := mo_ σ) (w := ft_ (mo_ σ)) (k := k) (c := c)) y] at ih2
        have hfe : fl_ (sx_ (mo_ σ) (ft_ (mo_ σ)) k c (y.1, y.2.1, 0)) := sx_fl (Or.inl rfl)
        have ew : ft_ (mo_ (mr_ σ y)) = ft_ (mo_ σ) := ft_cg rfl rfl
        have ep : sx_ (mo_ (mr_ σ y)) = sx_ (mo_ σ) := sx_cg rfl rfl rfl rfl
        have hf2 : y.2.2 = 0 ∨ y.2.2 = 1 := hf2
        have hB0 : B_ (mg_ (mr_ σ y) 0) := hB2
        refine qv_iload_n F d_M_round_14 0 rfl ?_
        refine qv_aload_n F d_M_round_15 3 rfl ?_
        refine g_M_53 F d_M_round_16 ?_
        refine qv_aload_n F d_M_round_19 3 rfl ?_
        refine g_M_19 F d_M_round_20 ?_
        refine qv_iload_n F d_M_round_23 1 rfl ?_
        refine ld_32 F (show k < 40 by omega) d_M_round_24 ?_
        refine qv_iconst F (nI 4) d_M_round_25 ic_4 ?_
        refine qv_idiv F d_M_round_26 (show σ 32 k < 2 ^ 31 by omega) (by decide) (by decide) ?_
        refine ld_43 F (show σ 32 k / 4 < 4 by omega) d_M_round_27 ?_
        refine qv_icmpge F d_M_round_28 rfl (by omega) (show σ 43 (σ 32 k / 4) < 2 ^ 31 by omega) (fun hb => ?_) (fun hb => ?_)
        ·
          exact absurd (show σ 43 (σ 32 k / 4) ≤ c from hb) (by omega)
        ·
          refine qv_aload_n F d_M_round_31 3 rfl ?_
          refine qv_iload_n F d_M_round_32 1 rfl ?_
          refine qv_iload_n F d_M_round_33 0 rfl ?_
          refine i_M_114i F (c_M_follow l X (mr_ σ y) k c (by omega) (by omega) ht hB0) (by decide) (Nat.le_of_ble_eq_true rfl) d_M_round_34 ?_
          rw [ew, ep, mr_mr]
          refine qv_st (σ' := mr_ σ (sx_ (mo_ σ) (ft_ (mo_ σ)) k c (y.1, y.2.1, 0))) rfl ?_
          refine qv_stk (st' := [.int (nI (sx_ (mo_ σ) (ft_ (mo_ σ)) k c (y.1, y.2.1, 0)).2.2)]) rfl ?_
          generalize sx_ (mo_ σ) (ft_ (mo_ σ)) k c (y.1, y.2.1, 0) = u at ih2 hfe ⊢
          have hfe : u.2.2 = 0 ∨ u.2.2 = 1 := hfe
          refine qv_istore (L' := [(4, _), (3, _), (2, _), (1, _), (0, _)]) F d_M_round_37 (by decide) rfl ?_
          refine qv_iload_n F d_M_round_39 3 rfl ?_
          refine qv_ifne F d_M_round_40 rfl (by omega) (fun hb => ?_) (fun hb => ?_)
          ·
            rw [show y.2.2 = 1 by omega, fg_1] at ih2
            refine qv_iconst F (nI 1) d_M_round_48 ic_1 ?_
            refine qv_goto F d_M_round_49 rfl ?_
            refine qv_istore_n (L' := [(1, _), (4, _), (3, _), (2, _), (0, _)]) F d_M_round_53 (by decide) rfl ?_
            refine qv_sub (L' := [(3, _), (2, _), (1, _), (0, _)]) [2, 3, 0, 4] rfl ?_
            refine qv_iinc (L' := [(3, _), (2, _), (1, _), (0, _)]) F _ d_M_round_54 0 rfl (ii_1 _) (by decide) rfl ?_
            refine qv_goto F d_M_round_57 rfl ?_
            exact ih2
          ·
            have hg0 := hb
            rw [hg0] at ih2
            refine qv_iload F d_M_round_43 0 rfl ?_
            refine qv_ifeq F d_M_round_45 rfl (by omega) (fun hb => ?_) (fun hb => ?_)
            ·
              rw [if_pos hb] at ih2
              refine qv_iconst F (nI 0) d_M_round_52 ic_0 ?_
              refine qv_istore_n (L' := [(1, _), (4, _), (3, _), (2, _), (0, _)]) F d_M_round_53 (by decide) rfl ?_
              refine qv_sub (L' := [(3, _), (2, _), (1, _), (0, _)]) [2, 3, 0, 4] rfl ?_
              refine qv_iinc (L' := [(3, _), (2, _), (1, _), (0, _)]) F _ d_M_round_54 0 rfl (ii_1 _) (by decide) rfl ?_
              refine qv_goto F d_M_round_57 rfl ?_
              exact ih2
            ·
              rw [if_neg hb] at ih2
              refine qv_iconst F (nI 1) d_M_round_48 ic_1 ?_
              refine qv_goto F d_M_round_49 rfl ?_
              refine qv_istore_n (L' := [(1, _), (4, _), (3, _), (2, _), (0, _)]) F d_M_round_53 (by decide) rfl ?_
              refine qv_sub (L' := [(3, _), (2, _), (1, _), (0, _)]) [2, 3, 0, 4] rfl ?_
              refine qv_iinc (L' := [(3, _), (2, _), (1, _), (0, _)]) F _ d_M_round_54 0 rfl (ii_1 _) (by decide) rfl ?_
              refine qv_goto F d_M_round_57 rfl ?_
              exact ih2

