/-! the reference: reaches, count, fitting -/
set_option maxRecDepth 100000 in
set_option maxHeartbeats 4000000 in
theorem c_M_reaches (l : Launch) (X : wX) (σ : sg) (hn : σ 28 7 ≤ 8) (h11 : ∀ k, σ 35 k < 4) (h12 : ∀ k, σ 36 k < 4) : mt_ l X y_M_reaches w_M_reaches 0 [.ref (adr X 28)] σ (ev_ (ua σ 41 (rch_ (cr_ (mo_ σ) (σ 28 7))))) := by
  refine mt_of (own := R_M) rfl pl_M (Nat.le_of_ble_eq_true rfl) ?_
  intro zp ze zs zm za zb zt zc F hr hlk
  refine qv_sub (L' := [(0, _)]) [0] rfl ?_
  refine qv_iconst F (nI 0) d_M_reaches_0 ic_0 ?_
  refine qv_istore_n (L' := [(1, _), (0, _)]) F d_M_reaches_1 (by decide) rfl ?_
  have lp := lu_up (fun k (g : Nat → Nat) => vv_ zp l ze (rr_ 0) zs zm za zb zt zc (MQ zb (mq_ X (ev_ (ua σ 41 (rch_ (cr_ (mo_ σ) (σ 28 7)))))) za zs 0 0 (aw_ X)) X 4 [(1, .int (nI k)), (0, .ref (adr X 28))] (ua σ 41 g) 2 []) (fun k g => ∀ i, i < k → g i = (decide (i % 5 = 0)).toNat) 16 ?_ ?_ 0 (σ 41) (Nat.zero_le _) (fun i hi => by omega)
  · exact qv_st (ua_id σ 41).symm lp
  · intro g hg
    refine qv_iload_n F d_M_reaches_2 0 rfl ?_
    refine qv_bipush F (nI 16) d_M_reaches_3 bic_16 ?_
    refine qv_icmpge F d_M_reaches_5 rfl (by decide) (by decide) (fun hb => ?_) (fun hb => ?_)
    ·
      refine qv_iconst F (nI 0) d_M_reaches_31 ic_0 ?_
      refine qv_istore_n (L' := [(1, _), (0, _)]) F d_M_reaches_32 (by decide) rfl ?_
      have lp2 := lu_up (fun i (g : Nat → Nat) => vv_ zp l ze (rr_ 0) zs zm za zb zt zc (MQ zb (mq_ X (ev_ (ua σ 41 (rch_ (cr_ (mo_ σ) (σ 28 7)))))) za zs 0 0 (aw_ X)) X 4 [(1, .int (nI i)), (0, .ref (adr X 28))] (ua σ 41 g) 33 []) (fun i g => ∀ a b, a < 4 → b < 4 → g (4 * a + b) = (rx_ (c0_ (mo_ σ) i) a b).toNat) (σ 28 7) ?_ ?_ 0 g (Nat.zero_le _) ?_
      · exact lp2
      · intro g hg
        refine qv_iload_n F d_M_reaches_33 0 rfl ?_
        refine qv_aload_n F d_M_reaches_34 1 rfl ?_
        refine g_M_86 F d_M_reaches_35 ?_
        refine qv_icmpge F d_M_reaches_38 rfl (show σ 28 7 < 2 ^ 31 by omega) (show σ 28 7 < 2 ^ 31 by omega) (fun hb => ?_) (fun hb => ?_)
        ·
          refine qv_iconst F (nI 0) d_M_reaches_68 ic_0 ?_
          refine qv_istore_n (L' := [(1, _), (0, _)]) F d_M_reaches_69 (by decide) rfl ?_
          have lp3 := lu_up (fun mm (g : Nat → Nat) => vv_ zp l ze (rr_ 0) zs zm za zb zt zc (MQ zb (mq_ X (ev_ (ua σ 41 (rch_ (cr_ (mo_ σ) (σ 28 7)))))) za zs 0 0 (aw_ X)) X 4 [(1, .int (nI mm)), (0, .ref (adr X 28))] (ua σ 41 g) 70 []) (fun mm g => ∀ a b, a < 4 → b < 4 → g (4 * a + b) = (rx_ (ww_ (c0_ (mo_ σ) (σ 28 7)) mm) a b).toNat) 4 ?_ ?_ 0 g (Nat.zero_le _) hg
          · exact lp3
          · intro g hg
            refine qv_iload_n F d_M_reaches_70 0 rfl ?_
            refine qv_iconst F (nI 4) d_M_reaches_71 ic_4 ?_
            refine qv_icmpge F d_M_reaches_72 rfl (by decide) (by decide) (fun hb => ?_) (fun hb => ?_)
            ·
              refine qv_ext 41 (z := true) (n := 16) (g := rch_ (cr_ (mo_ σ) (σ 28 7))) rfl (t16 (fun a b ha hb => ?_)) ?_
              · show rch_ (cr_ (mo_ σ) (σ 28 7)) (4 * a + b) = g (4 * a + b)
                rw [rch_at _ hb, hg a b ha hb]
                congr 1
                exact rx_cg (fun a b hb => cr_is hb) hb
              ·
                exact qv_ret F hr hlk d_M_reaches_161 (ev_of (ua_ua σ 41 g _))
            ·
              exact absurd hb (by decide)
          · intro mm g hm hg ih
            have hw : ∀ a b, ww_ (c0_ (mo_ σ) (σ 28 7)) (mm + 1) a b = w1_ mm (ww_ (c0_ (mo_ σ) (σ 28 7)) mm) a b := fun _ _ => rfl
            have hw2 : ww_ (c0_ (mo_ σ) (σ 28 7)) (mm + 1) = w1_ mm (ww_ (c0_ (mo_ σ) (σ 28 7)) mm) := rfl
            rw [hw2] at ih
            generalize ww_ (c0_ (mo_ σ) (σ 28 7)) mm = C at hg ih
            refine qv_iload_n F d_M_reaches_70 0 rfl ?_
            refine qv_iconst F (nI 4) d_M_reaches_71 ic_4 ?_
            refine qv_icmpge F d_M_reaches_72 rfl (by omega) (by omega) (fun hb => ?_) (fun hb => ?_)
            ·
              omega
            ·
              refine qv_iconst F (nI 0) d_M_reaches_75 ic_0 ?_
              refine qv_istore_n (L' := [(2, _), (1, _), (0, _)]) F d_M_reaches_76 (by decide) rfl ?_
              have lpa := lu_up (fun a (g : Nat → Nat) => vv_ zp l ze (rr_ 0) zs zm za zb zt zc (MQ zb (mq_ X (ev_ (ua σ 41 (rch_ (cr_ (mo_ σ) (σ 28 7)))))) za zs 0 0 (aw_ X)) X 4 [(2, .int (nI a)), (1, .int (nI mm)), (0, .ref (adr X 28))] (ua σ 41 g) 77 []) (fun a g => tb2_ C (w1_ mm C) a 0 g) 4 ?_ ?_ 0 g (Nat.zero_le _) (tb2_0 hg)
              · exact lpa
              · intro g hg
                refine qv_iload_n F d_M_reaches_77 0 rfl ?_
                refine qv_iconst F (nI 4) d_M_reaches_78 ic_4 ?_
                refine qv_icmpge F d_M_reaches_79 rfl (by decide) (by decide) (fun hb => ?_) (fun hb => ?_)
                ·
                  refine qv_sub (L' := [(1, _), (0, _)]) [1, 2] rfl ?_
                  refine qv_iinc (L' := [(1, _), (0, _)]) F _ d_M_reaches_155 0 rfl (ii_1 _) (by decide) rfl ?_
                  refine qv_goto F d_M_reaches_158 rfl ?_
                  exact ih g (tb2_end hg)
                ·
                  exact absurd hb (by decide)
              · intro a g ha hg iha
                refine qv_iload_n F d_M_reaches_77 0 rfl ?_
                refine qv_iconst F (nI 4) d_M_reaches_78 ic_4 ?_
                refine qv_icmpge F d_M_reaches_79 rfl (by omega) (by omega) (fun hb => ?_) (fun hb => ?_)
                ·
                  omega
                ·
                  refine qv_iconst F (nI 0) d_M_reaches_82 ic_0 ?_
                  refine qv_istore_n (L' := [(3, _), (2, _), (1, _), (0, _)]) F d_M_reaches_83 (by decide) rfl ?_
                  have lpb := lu_up (fun b (g : Nat → Nat) => vv_ zp l ze (rr_ 0) zs zm za zb zt zc (MQ zb (mq_ X (ev_ (ua σ 41 (rch_ (cr_ (mo_ σ) (σ 28 7)))))) za zs 0 0 (aw_ X)) X 4 [(3, .int (nI b)), (2, .int (nI a)), (1, .int (nI mm)), (0, .ref (adr X 28))] (ua σ 41 g) 84 []) (fun b g => tb2_ C (w1_ mm C) a b g) 4 ?_ ?_ 0 g (Nat.zero_le _) hg
                  · exact lpb
                  · intro g hg
                    refine qv_iload_n F d_M_reaches_84 0 rfl ?_
                    refine qv_iconst F (nI 4) d_M_reaches_85 ic_4 ?_
                    refine qv_icmpge F d_M_reaches_86 rfl (by decide) (by decide) (fun hb => ?_) (fun hb => ?_)
                    ·
                      refine qv_sub (L' := [(2, _), (1, _), (0, _)]) [1, 2, 3] rfl ?_
                      refine qv_iinc (L' := [(2, _), (1, _), (0, _)]) F _ d_M_reaches_149 0 rfl (ii_1 _) (by decide) rfl ?_
                      refine qv_goto F d_M_reaches_152 rfl ?_
                      exact iha g (tb2_next hg)
                    ·
                      exact absurd hb (by decide)
                  · intro b g hb4 hg ihb
                    have v1 := tb2_here hg ha hb4
                    have v2 := tb2_col hg ha hm
                    have v3 := tb2_row hg hb4 hm
                    have e0 := rx_step mm C a b
                    refine qv_iload_n F d_M_reaches_84 0 rfl ?_
                    refine qv_iconst F (nI 4) d_M_reaches_85 ic_4 ?_
                    refine qv_icmpge F d_M_reaches_86 rfl (by omega) (by omega) (fun hb => ?_) (fun hb => ?_)
                    ·
                      omega
                    ·
                      refine qv_aload_n F d_M_reaches_89 3 rfl ?_
                      refine g_M_47 F d_M_reaches_90 ?_
                      refine qv_iconst F (nI 4) d_M_reaches_93 ic_4 ?_
                      refine qv_iload_n F d_M_reaches_94 1 rfl ?_
                      refine qv_imul F d_M_reaches_95 ?_
                      refine qv_iload_n F d_M_reaches_96 0 rfl ?_
                      refine qv_iadd F d_M_reaches_97 ?_
                      refine qv_aload_n F d_M_reaches_98 3 rfl ?_
                      refine g_M_47 F d_M_reaches_99 ?_
                      refine qv_iconst F (nI 4) d_M_reaches_102 ic_4 ?_
                      refine qv_iload_n F d_M_reaches_103 1 rfl ?_
                      refine qv_imul F d_M_reaches_104 ?_
                      refine qv_iload_n F d_M_reaches_105 0 rfl ?_
                      refine qv_iadd F d_M_reaches_106 ?_
                      refine ld_41 F (show 4 * a + b < 16 by omega) d_M_reaches_107 ?_
                      refine qv_stk (st' := .int (nI (rx_ C a b).toNat) :: _) (by rw [← v1]; rfl) ?_
                      refine qv_ifneB F d_M_reaches_108 rfl (fun hb => ?_) (fun hb => ?_)
                      ·
                        refine qv_iconst F (nI 1) d_M_reaches_137 ic_1 ?_
                        refine qv_goto F d_M_reaches_138 rfl ?_
                        refine sv_41 F (show 4 * a + b < 16 by omega) (Or.inr rfl) d_M_reaches_142 ?_
                        refine qv_st (us_ua σ 41 g (4 * a + b) 1) ?_
                        refine qv_iinc (L' := [(3, _), (2, _), (1, _), (0, _)]) F _ d_M_reaches_143 0 rfl (ii_1 _) (by decide) rfl ?_
                        refine qv_goto F d_M_reaches_146 rfl ?_
                        exact ihb _ (tb2_up hg hb4 (by rw [← e0, hb]; rfl))
                      ·
                        have h1 := hb
                        refine qv_aload_n F d_M_reaches_111 3 rfl ?_
                        refine g_M_47 F d_M_reaches_112 ?_
                        refine qv_iconst F (nI 4) d_M_reaches_115 ic_4 ?_
                        refine qv_iload_n F d_M_reaches_116 1 rfl ?_
                        refine qv_imul F d_M_reaches_117 ?_
                        refine qv_iload_n F d_M_reaches_118 2 rfl ?_
                        refine qv_iadd F d_M_reaches_119 ?_
                        refine ld_41 F (show 4 * a + mm < 16 by omega) d_M_reaches_120 ?_
                        refine qv_stk (st' := .int (nI (rx_ C a mm).toNat) :: _) (by rw [← v2]; rfl) ?_
                        refine qv_ifeqB F d_M_reaches_121 rfl (fun hb => ?_) (fun hb => ?_)
                        ·
                          refine qv_iconst F (nI 0) d_M_reaches_141 ic_0 ?_
                          refine sv_41 F (show 4 * a + b < 16 by omega) (Or.inl rfl) d_M_reaches_142 ?_
                          refine qv_st (us_ua σ 41 g (4 * a + b) 0) ?_
                          refine qv_iinc (L' := [(3, _), (2, _), (1, _), (0, _)]) F _ d_M_reaches_143 0 rfl (ii_1 _) (by decide) rfl ?_
                          refine qv_goto F d_M_reaches_146 rfl ?_
                          exact ihb _ (tb2_up hg hb4 (by rw [← e0, h1, hb]; rfl))
                        ·
                          have h2 := hb
                          refine qv_aload_n F d_M_reaches_124 3 rfl ?_
                          refine g_M_47 F d_M_reaches_125 ?_
                          refine qv_iconst F (nI 4) d_M_reaches_128 ic_4 ?_
                          refine qv_iload_n F d_M_reaches_129 2 rfl ?_
                          refine qv_imul F d_M_reaches_130 ?_
                          refine qv_iload_n F d_M_reaches_131 0 rfl ?_
                          refine qv_iadd F d_M_reaches_132 ?_
                          refine ld_41 F (show 4 * mm + b < 16 by omega) d_M_reaches_133 ?_
                          refine qv_stk (st' := .int (nI (rx_ C mm b).toNat) :: _) (by rw [← v3]; rfl) ?_
                          refine qv_ifeqB F d_M_reaches_134 rfl (fun hb => ?_) (fun hb => ?_)
                          ·
                            refine qv_iconst F (nI 0) d_M_reaches_141 ic_0 ?_
                            refine sv_41 F (show 4 * a + b < 16 by omega) (Or.inl rfl) d_M_reaches_142 ?_
                            refine qv_st (us_ua σ 41 g (4 * a + b) 0) ?_
                            refine qv_iinc (L' := [(3, _), (2, _), (1, _), (0, _)]) F _ d_M_reaches_143 0 rfl (ii_1 _) (by decide) rfl ?_
                            refine qv_goto F d_M_reaches_146 rfl ?_
                            exact ihb _ (tb2_up hg hb4 (by rw [← e0, h1, h2, hb]; rfl))
                          ·
                            refine qv_iconst F (nI 1) d_M_reaches_137 ic_1 ?_
                            refine qv_goto F d_M_reaches_138 rfl ?_
                            refine sv_41 F (show 4 * a + b < 16 by omega) (Or.inr rfl) d_M_reaches_142 ?_
                            refine qv_st (us_ua σ 41 g (4 * a + b) 1) ?_
                            refine qv_iinc (L' := [(3, _), (2, _), (1, _), (0, _)]) F _ d_M_reaches_143 0 rfl (ii_1 _) (by decide) rfl ?_
                            refine qv_goto F d_M_reaches_146 rfl ?_
                            exact ihb _ (tb2_up hg hb4 (by rw [← e0, h1, h2, hb]; rfl))
        ·
          exact absurd (show σ 28 7 < σ 28 7 from hb) (by omega)
      · intro i g hi hg ih
        have q11 := h11 i
        have q12 := h12 i
        refine qv_iload_n F d_M_reaches_33 0 rfl ?_
        refine qv_aload_n F d_M_reaches_34 1 rfl ?_
        refine g_M_86 F d_M_reaches_35 ?_
        refine qv_icmpge F d_M_reaches_38 rfl (by omega) (show σ 28 7 < 2 ^ 31 by omega) (fun hb => ?_) (fun hb => ?_)
        ·
          exact absurd (show σ 28 7 ≤ i from hb) (by omega)
        ·
          refine qv_aload_n F d_M_reaches_41 1 rfl ?_
          refine g_M_47 F d_M_reaches_42 ?_
          refine qv_iconst F (nI 4) d_M_reaches_45 ic_4 ?_
          refine qv_aload_n F d_M_reaches_46 1 rfl ?_
          refine g_M_28 F d_M_reaches_47 ?_
          refine qv_iload_n F d_M_reaches_50 0 rfl ?_
          refine ld_35 F (show i < 8 by omega) d_M_reaches_51 ?_
          refine qv_imul F d_M_reaches_52 ?_
          refine qv_aload_n F d_M_reaches_53 1 rfl ?_
          refine g_M_31 F d_M_reaches_54 ?_
          refine qv_iload_n F d_M_reaches_57 0 rfl ?_
          refine ld_36 F (show i < 8 by omega) d_M_reaches_58 ?_
          refine qv_iadd F d_M_reaches_59 ?_
          refine qv_iconst F (nI 1) d_M_reaches_60 ic_1 ?_
          refine sv_41 F (show 4 * σ 35 i + σ 36 i < 16 by omega) (Or.inr rfl) d_M_reaches_61 ?_
          refine qv_st (us_ua σ 41 g (4 * σ 35 i + σ 36 i) 1) ?_
          refine qv_iinc (L' := [(1, _), (0, _)]) F _ d_M_reaches_62 0 rfl (ii_1 _) (by decide) rfl ?_
          refine qv_goto F d_M_reaches_65 rfl ?_
          refine ih _ (fun a b ha hb => ?_)
          rw [rx_c0]
          by_cases e : 4 * a + b = 4 * σ 35 i + σ 36 i
          · obtain ⟨rfl, rfl⟩ : a = σ 35 i ∧ b = σ 36 i := by omega
            rw [up_eq]
            show 1 = (rx_ (c0_ (mo_ σ) i) (σ 35 i) (σ 36 i) || (σ 35 i == σ 35 i && σ 36 i == σ 36 i)).toNat
            rw [beq_self_eq_true, beq_self_eq_true]
            simp
          · rw [up_ne e, hg a b ha hb]
            have e2 : (mo_ σ 11 i == a && mo_ σ 12 i == b) = false := by
              rw [← Bool.not_eq_true, Bool.and_eq_true, beq_iff_eq, beq_iff_eq]
              intro z
              have z1 : σ 35 i = a := z.1
              have z2 : σ 36 i = b := z.2
              omega
            rw [e2, Bool.or_false]
      · intro a b ha hb
        rw [hg (4 * a + b) (by omega)]
        show _ = (a == b || false).toNat
        rw [Bool.or_false]
        by_cases e : a = b
        · rw [decide_eq_true (by omega), beq_iff_eq.mpr e]
        · have e2 : (a == b) = false := by rw [← Bool.not_eq_true, beq_iff_eq]; exact e
          rw [decide_eq_false (by omega), e2]
    ·
      exact absurd hb (by decide)
  · intro k g hk hg ih
    refine qv_iload_n F d_M_reaches_2 0 rfl ?_
    refine qv_bipush F (nI 16) d_M_reaches_3 bic_16 ?_
    refine qv_icmpge F d_M_reaches_5 rfl (by omega) (by omega) (fun hb => ?_) (fun hb => ?_)
    ·
      omega
    ·
      refine qv_aload_n F d_M_reaches_8 1 rfl ?_
      refine g_M_47 F d_M_reaches_9 ?_
      refine qv_iload_n F d_M_reaches_12 0 rfl ?_
      refine qv_iload_n F d_M_reaches_13 0 rfl ?_
      refine qv_iconst F (nI 5) d_M_reaches_14 ic_5 ?_
      refine qv_irem F d_M_reaches_15 (by omega) (by decide) (by decide) ?_
      refine qv_ifne F d_M_reaches_16 rfl (by omega) (fun hb => ?_) (fun hb => ?_)
      ·
        refine qv_iconst F (nI 0) d_M_reaches_23 ic_0 ?_
        refine sv_41 F hk (Or.inl rfl) d_M_reaches_24 ?_
        refine qv_st (us_ua σ 41 g k 0) ?_
        refine qv_iinc (L' := [(1, _), (0, _)]) F _ d_M_reaches_25 0 rfl (ii_1 _) (by decide) rfl ?_
        refine qv_goto F d_M_reaches_28 rfl ?_
        refine ih _ (fun i hi => ?_)
        by_cases e : i = k
        · subst e; rw [up_eq, decide_eq_false hb]; rfl
        · rw [up_ne e]; exact hg i (by omega)
      ·
        refine qv_iconst F (nI 1) d_M_reaches_19 ic_1 ?_
        refine qv_goto F d_M_reaches_20 rfl ?_
        refine sv_41 F hk (Or.inr rfl) d_M_reaches_24 ?_
        refine qv_st (us_ua σ 41 g k 1) ?_
        refine qv_iinc (L' := [(1, _), (0, _)]) F _ d_M_reaches_25 0 rfl (ii_1 _) (by decide) rfl ?_
        refine qv_goto F d_M_reaches_28 rfl ?_
        refine ih _ (fun i hi => ?_)
        by_cases e : i = k
        · subst e; rw [up_eq, decide_eq_true hb]; rfl
        · rw [up_ne e]; exact hg i (by omega)
set_option maxRecDepth 100000 in
set_option maxHeartbeats 4000000 in
theorem c_M_count (l : Launch) (X : wX) (σ : sg) (hn : σ 28 7 ≤ 8) (C : rl_) (h11 : ∀ k, σ 35 k < 4) (h12 : ∀ k, σ 36 k < 4) (h41 : σ 41 = rch_ C) : mt_ l X y_M_count w_M_count 3 [.ref (adr X 28)] σ (ei_ (nI (gd_ (S5_ (mo_ σ) C (σ 28 7))).toNat) (ua σ 42 (S5_ (mo_ σ) C (σ 28 7)))) := by
  refine mt_of (own := R_M) rfl pl_M (Nat.le_of_ble_eq_true rfl) ?_
  intro zp ze zs zm za zb zt zc F hr hlk
  refine qv_sub (L' := [(0, _)]) [0] rfl ?_
  refine qv_iconst F (nI 1) d_M_count_0 ic_1 ?_
  refine qv_istore_n (L' := [(1, _), (0, _)]) F d_M_count_1 (by decide) rfl ?_
  refine qv_iconst F (nI 0) d_M_count_2 ic_0 ?_
  refine qv_istore_n (L' := [(2, _), (1, _), (0, _)]) F d_M_count_3 (by decide) rfl ?_
  have lp := lu_up (fun k (g : Nat → Nat) => vv_ zp l ze (rr_ 3) zs zm za zb zt zc (MQ zb (mq_ X (ei_ (nI (gd_ (S5_ (mo_ σ) C (σ 28 7))).toNat) (ua σ 42 (S5_ (mo_ σ) C (σ 28 7))))) za zs 0 0 (aw_ X)) X 5 [(2, .int (nI k)), (1, .int (nI 1)), (0, .ref (adr X 28))] (ua σ 42 g) 4 []) (fun k g => ∀ i, i < k → g i = 1) 4 ?_ ?_ 0 (σ 42) (Nat.zero_le _) (fun i hi => by omega)
  · exact qv_st (ua_id σ 42).symm lp
  · intro g hg
    refine qv_ext 42 (z := false) (n := 4) (g := fun _ => 1) rfl (fun k hk => by rw [ua_eq]; exact (hg k hk).symm) ?_
    rw [ua_ua]
    refine qv_iload_n F d_M_count_4 0 rfl ?_
    refine qv_iconst F (nI 4) d_M_count_5 ic_4 ?_
    refine qv_icmpge F d_M_count_6 rfl (by decide) (by decide) (fun hb => ?_) (fun hb => ?_)
    ·
      refine qv_iconst F (nI 0) d_M_count_22 ic_0 ?_
      refine qv_istore_n (L' := [(2, _), (1, _), (0, _)]) F d_M_count_23 (by decide) rfl ?_
      have lpr := lu_up (fun r (_ : Unit) => vv_ zp l ze (rr_ 3) zs zm za zb zt zc (MQ zb (mq_ X (ei_ (nI (gd_ (S5_ (mo_ σ) C (σ 28 7))).toNat) (ua σ 42 (S5_ (mo_ σ) C (σ 28 7))))) za zs 0 0 (aw_ X)) X 5 [(2, .int (nI r)), (1, .int (nI 1)), (0, .ref (adr X 28))] (ua σ 42 (sn_ (f2_ (mo_ σ) C (σ 28 7)) (fun _ => 1) r)) 24 []) (fun _ _ => True) 5 ?_ ?_ 0 () (Nat.zero_le _) trivial
      · exact lpr
      · intro _ _
        refine qv_iload_n F d_M_count_24 0 rfl ?_
        refine qv_iconst F (nI 5) d_M_count_25 ic_5 ?_
        refine qv_icmpge F d_M_count_26 rfl (by decide) (by decide) (fun hb => ?_) (fun hb => ?_)
        ·
          refine qv_iconst F (nI 0) d_M_count_88 ic_0 ?_
          refine qv_istore_n (L' := [(2, _), (1, _), (0, _)]) F d_M_count_89 (by decide) rfl ?_
          have lpg := lu_up (fun k (b : Bool) => vv_ zp l ze (rr_ 3) zs zm za zb zt zc (MQ zb (mq_ X (ei_ (nI (gd_ (S5_ (mo_ σ) C (σ 28 7))).toNat) (ua σ 42 (S5_ (mo_ σ) C (σ 28 7))))) za zs 0 0 (aw_ X)) X 5 [(2, .int (nI k)), (1, .int (nI b.toNat)), (0, .ref (adr X 28))] (ua σ 42 (S5_ (mo_ σ) C (σ 28 7))) 90 []) (fun k b => b = true ↔ ∀ i, i < k → S5_ (mo_ σ) C (σ 28 7) i ≤ 8) 4 ?_ ?_ 0 true (Nat.zero_le _) ⟨fun _ i hi => by omega, fun _ => rfl⟩
          · exact lpg
          · intro b hb4
            have eb : b = gd_ (S5_ (mo_ σ) C (σ 28 7)) := by
              rw [Bool.eq_iff_iff, hb4]
              exact ⟨fun h => gd_t h, fun h => gd_of h⟩
            subst eb
            refine qv_iload_n F d_M_count_90 0 rfl ?_
            refine qv_iconst F (nI 4) d_M_count_91 ic_4 ?_
            refine qv_icmpge F d_M_count_92 rfl (by decide) (by decide) (fun hb => ?_) (fun hb => ?_)
            ·
              refine qv_iload_n F d_M_count_122 1 rfl ?_
              exact qv_zret F hr hlk (by first | exact Or.inl rfl | exact Or.inr rfl | exact bz_01 _) d_M_count_123 (ei_of rfl rfl)
            ·
              exact absurd hb (by decide)
          · intro k b hk hI ih
            have v9 := sn_9 (t := mo_ σ) (C := C) (nc := σ 28 7) 5 k
            have v9 : S5_ (mo_ σ) C (σ 28 7) k ≤ 9 := v9
            refine qv_iload_n F d_M_count_90 0 rfl ?_
            refine qv_iconst F (nI 4) d_M_count_91 ic_4 ?_
            refine qv_icmpge F d_M_count_92 rfl (by omega) (by omega) (fun hb => ?_) (fun hb => ?_)
            ·
              omega
            ·
              refine qv_iload_n F d_M_count_95 1 rfl ?_
              refine qv_ifeqB F d_M_count_96 rfl (fun hb => ?_) (fun hb => ?_)
              ·
                refine qv_iconst F (nI 0) d_M_count_114 ic_0 ?_
                refine qv_istore_n (L' := [(1, _), (2, _), (0, _)]) F d_M_count_115 (by decide) rfl ?_
                refine qv_sub (L' := [(2, _), (1, _), (0, _)]) [1, 0, 2] rfl ?_
                refine qv_iinc (L' := [(2, _), (1, _), (0, _)]) F _ d_M_count_116 0 rfl (ii_1 _) (by decide) rfl ?_
                refine qv_goto F d_M_count_119 rfl ?_
                refine ih false ⟨fun z => (by cases z), fun z => ?_⟩
                rw [← hb, hI]
                exact fun i hi => z i (by omega)
              ·
                have h1 := hI.mp hb
                refine qv_aload_n F d_M_count_99 2 rfl ?_
                refine g_M_50 F d_M_count_100 ?_
                refine qv_iload_n F d_M_count_103 0 rfl ?_
                refine ld_42 F hk d_M_count_104 ?_
                refine qv_bipush F (nI 8) d_M_count_105 bic_8 ?_
                refine qv_icmpgt F d_M_count_107 rfl (show S5_ (mo_ σ) C (σ 28 7) k < 2 ^ 31 by omega) (by omega) (fun hb => ?_) (fun hb => ?_)
                ·
                  have hb : 8 < S5_ (mo_ σ) C (σ 28 7) k := hb
                  refine qv_iconst F (nI 0) d_M_count_114 ic_0 ?_
                  refine qv_istore_n (L' := [(1, _), (2, _), (0, _)]) F d_M_count_115 (by decide) rfl ?_
                  refine qv_sub (L' := [(2, _), (1, _), (0, _)]) [1, 0, 2] rfl ?_
                  refine qv_iinc (L' := [(2, _), (1, _), (0, _)]) F _ d_M_count_116 0 rfl (ii_1 _) (by decide) rfl ?_
                  refine qv_goto F d_M_count_119 rfl ?_
                  refine ih false ⟨fun z => (by cases z), fun z => ?_⟩
                  have := z k (by omega)
                  omega
                ·
                  have hb : S5_ (mo_ σ) C (σ 28 7) k ≤ 8 := hb
                  refine qv_iconst F (nI 1) d_M_count_110 ic_1 ?_
                  refine qv_goto F d_M_count_111 rfl ?_
                  refine qv_istore_n (L' := [(1, _), (2, _), (0, _)]) F d_M_count_115 (by decide) rfl ?_
                  refine qv_sub (L' := [(2, _), (1, _), (0, _)]) [1, 0, 2] rfl ?_
                  refine qv_iinc (L' := [(2, _), (1, _), (0, _)]) F _ d_M_count_116 0 rfl (ii_1 _) (by decide) rfl ?_
                  refine qv_goto F d_M_count_119 rfl ?_
                  refine ih true ⟨fun _ i hi => ?_, fun _ => rfl⟩
                  by_cases e : i = k
                  · subst e; exact hb
                  · exact h1 i (by omega)
        ·
          exact absurd hb (by decide)
      · intro r _ hr5 _ ih
        have ih := ih () trivial
        have hB := sn_9 (t := mo_ σ) (C := C) (nc := σ 28 7) r
        refine qv_iload_n F d_M_count_24 0 rfl ?_
        refine qv_iconst F (nI 5) d_M_count_25 ic_5 ?_
        refine qv_icmpge F d_M_count_26 rfl (by omega) (by omega) (fun hb => ?_) (fun hb => ?_)
        ·
          omega
        ·
          refine qv_iconst F (nI 0) d_M_count_29 ic_0 ?_
          refine qv_istore_n (L' := [(3, _), (2, _), (1, _), (0, _)]) F d_M_count_30 (by decide) rfl ?_
          have lp2 := lu_up (fun k (_ : Unit) => vv_ zp l ze (rr_ 3) zs zm za zb zt zc (MQ zb (mq_ X (ei_ (nI (gd_ (S5_ (mo_ σ) C (σ 28 7))).toNat) (ua σ 42 (S5_ (mo_ σ) C (σ 28 7))))) za zs 0 0 (aw_ X)) X 5 [(3, .int (nI k)), (2, .int (nI r)), (1, .int (nI 1)), (0, .ref (adr X 28))] (ua σ 42 (sw_ (f2_ (mo_ σ) C (σ 28 7)) (sn_ (f2_ (mo_ σ) C (σ 28 7)) (fun _ => 1) r) k)) 31 []) (fun _ _ => True) 4 ?_ ?_ 0 () (Nat.zero_le _) trivial
          · exact lp2
          · intro _ _
            refine qv_iload_n F d_M_count_31 0 rfl ?_
            refine qv_iconst F (nI 4) d_M_count_32 ic_4 ?_
            refine qv_icmpge F d_M_count_33 rfl (by decide) (by decide) (fun hb => ?_) (fun hb => ?_)
            ·
              refine qv_sub (L' := [(2, _), (1, _), (0, _)]) [1, 2, 3] rfl ?_
              refine qv_iinc (L' := [(2, _), (1, _), (0, _)]) F _ d_M_count_82 0 rfl (ii_1 _) (by decide) rfl ?_
              refine qv_goto F d_M_count_85 rfl ?_
              exact ih
            ·
              exact absurd hb (by decide)
          · intro k _ hk _ ih2
            have ih2 := ih2 () trivial
            have hB2 := sw_9 (t := mo_ σ) (C := C) (nc := σ 28 7) hB k
            have e1 : sw_ (f2_ (mo_ σ) C (σ 28 7)) (sn_ (f2_ (mo_ σ) C (σ 28 7)) (fun _ => 1) r) (k + 1) = va_up (sw_ (f2_ (mo_ σ) C (σ 28 7)) (sn_ (f2_ (mo_ σ) C (σ 28 7)) (fun _ => 1) r) k) k (f2_ (mo_ σ) C (σ 28 7) (sw_ (f2_ (mo_ σ) C (σ 28 7)) (sn_ (f2_ (mo_ σ) C (σ 28 7)) (fun _ => 1) r) k) k) := rfl
            rw [e1] at ih2
            generalize sw_ (f2_ (mo_ σ) C (σ 28 7)) (sn_ (f2_ (mo_ σ) C (σ 28 7)) (fun _ => 1) r) k = g at hB2 ih2 ⊢
            have hbr := br_72 (t := mo_ σ) (C := C) (m := k) hB2 hn
            have e2 : br_ (mo_ (ua σ 42 g)) C ((ua σ 42 g) 42) k (σ 28 7) = br_ (mo_ σ) C g k (σ 28 7) := by
              rw [br_cg (t := mo_ (ua σ 42 g)) (t' := mo_ σ) rfl rfl]
              rfl
            have e3 : ∀ x, x = f2_ (mo_ σ) C (σ 28 7) g k → us (ua σ 42 g) 42 k x = ua σ 42 (va_up g k (f2_ (mo_ σ) C (σ 28 7) g k)) := fun x hx => by rw [us_ua, hx]
            refine qv_iload_n F d_M_count_31 0 rfl ?_
            refine qv_iconst F (nI 4) d_M_count_32 ic_4 ?_
            refine qv_icmpge F d_M_count_33 rfl (by omega) (by omega) (fun hb => ?_) (fun hb => ?_)
            ·
              omega
            ·
              refine qv_aload_n F d_M_count_36 3 rfl ?_
              refine qv_iload_n F d_M_count_37 0 rfl ?_
              refine qv_aload_n F d_M_count_38 3 rfl ?_
              refine g_M_86 F d_M_count_39 ?_
              refine i_M_96i F (c_M_brought l X (ua σ 42 g) C k (σ 28 7) hn hk h11 h12 h41) (by decide) (Nat.le_of_ble_eq_true rfl) d_M_count_42 ?_
              rw [e2]
              have ef : f2_ (mo_ σ) C (σ 28 7) g k = cl9 (br_ (mo_ σ) C g k (σ 28 7)) := rfl
              generalize br_ (mo_ σ) C g k (σ 28 7) = y at hbr ef
              refine qv_istore (L' := [(4, _), (3, _), (2, _), (1, _), (0, _)]) F d_M_count_45 (by decide) rfl ?_
              refine qv_aload_n F d_M_count_47 4 rfl ?_
              refine g_M_50 F d_M_count_48 ?_
              refine qv_iload_n F d_M_count_51 1 rfl ?_
              refine qv_iload F d_M_count_52 0 rfl ?_
              refine qv_ifne F d_M_count_54 rfl (by omega) (fun hb => ?_) (fun hb => ?_)
              ·
                refine qv_iload F d_M_count_61 0 rfl ?_
                refine qv_bipush F (nI 9) d_M_count_63 bic_9 ?_
                refine qv_icmple F d_M_count_65 rfl (by omega) (by omega) (fun hb => ?_) (fun hb => ?_)
                ·
                  refine qv_iload F d_M_count_73 0 rfl ?_
                  refine sv_42 F hk d_M_count_75 ?_
                  refine qv_st (e3 y (by rw [ef]; unfold cl9; rw [if_neg (by omega), if_neg (by omega)])) ?_
                  refine qv_sub (L' := [(3, _), (2, _), (1, _), (0, _)]) [1, 2, 3, 4] rfl ?_
                  refine qv_iinc (L' := [(3, _), (2, _), (1, _), (0, _)]) F _ d_M_count_76 0 rfl (ii_1 _) (by decide) rfl ?_
                  refine qv_goto F d_M_count_79 rfl ?_
                  exact ih2
                ·
                  refine qv_bipush F (nI 9) d_M_count_68 bic_9 ?_
                  refine qv_goto F d_M_count_70 rfl ?_
                  refine sv_42 F hk d_M_count_75 ?_
                  refine qv_st (e3 9 (by rw [ef]; unfold cl9; rw [if_neg (by omega), if_pos (by omega)])) ?_
                  refine qv_sub (L' := [(3, _), (2, _), (1, _), (0, _)]) [1, 2, 3, 4] rfl ?_
                  refine qv_iinc (L' := [(3, _), (2, _), (1, _), (0, _)]) F _ d_M_count_76 0 rfl (ii_1 _) (by decide) rfl ?_
                  refine qv_goto F d_M_count_79 rfl ?_
                  exact ih2
              ·
                refine qv_iconst F (nI 1) d_M_count_57 ic_1 ?_
                refine qv_goto F d_M_count_58 rfl ?_
                refine sv_42 F hk d_M_count_75 ?_
                refine qv_st (e3 1 (by rw [ef]; unfold cl9; rw [if_pos (by omega)])) ?_
                refine qv_sub (L' := [(3, _), (2, _), (1, _), (0, _)]) [1, 2, 3, 4] rfl ?_
                refine qv_iinc (L' := [(3, _), (2, _), (1, _), (0, _)]) F _ d_M_count_76 0 rfl (ii_1 _) (by decide) rfl ?_
                refine qv_goto F d_M_count_79 rfl ?_
                exact ih2
    ·
      exact absurd hb (by decide)
  · intro k g hk hg ih
    refine qv_iload_n F d_M_count_4 0 rfl ?_
    refine qv_iconst F (nI 4) d_M_count_5 ic_4 ?_
    refine qv_icmpge F d_M_count_6 rfl (by omega) (by omega) (fun hb => ?_) (fun hb => ?_)
    ·
      omega
    ·
      refine qv_aload_n F d_M_count_9 2 rfl ?_
      refine g_M_50 F d_M_count_10 ?_
      refine qv_iload_n F d_M_count_13 0 rfl ?_
      refine qv_iconst F (nI 1) d_M_count_14 ic_1 ?_
      refine sv_42 F hk d_M_count_15 ?_
      refine qv_st (us_ua σ 42 g k 1) ?_
      refine qv_iinc (L' := [(2, _), (1, _), (0, _)]) F _ d_M_count_16 0 rfl (ii_1 _) (by decide) rfl ?_
      refine qv_goto F d_M_count_19 rfl ?_
      refine ih _ (fun i hi => ?_)
      by_cases e : i = k
      · subst e; exact up_eq _ _ _
      · rw [up_ne e]; exact hg i (by omega)
set_option maxRecDepth 100000 in
set_option maxHeartbeats 4000000 in
theorem c_M_fitting (l : Launch) (X : wX) (σ : sg) (v : Nat) (hv : v < 16) (h5 : ∀ k, σ 29 k < 4) (h6 : ∀ k, σ 30 k < 16) : mt_ l X y_M_fitting w_M_fitting 0 [.ref (adr X 28), .int (nI v)] σ (ei_ (nI (ft_ (mo_ σ) v)) σ) := by
  refine mt_of (own := R_M) rfl pl_M (Nat.le_of_ble_eq_true rfl) ?_
  intro zp ze zs zm za zb zt zc F hr hlk
  refine qv_sub (L' := [(0, _), (1, _)]) [0, 1] rfl ?_
  refine qv_iconst F (nI 0) d_M_fitting_0 ic_0 ?_
  refine qv_istore_n (L' := [(2, _), (0, _), (1, _)]) F d_M_fitting_1 (by decide) rfl ?_
  refine qv_iconst F (nI 0) d_M_fitting_2 ic_0 ?_
  refine qv_istore_n (L' := [(3, _), (2, _), (0, _), (1, _)]) F d_M_fitting_3 (by decide) rfl ?_
  have lp := lu_up (fun h (_ : Unit) => vv_ zp l ze (rr_ 0) zs zm za zb zt zc (MQ zb (mq_ X (ei_ (nI (ft_ (mo_ σ) v)) σ)) za zs 0 0 (aw_ X)) X 4 [(3, .int (nI h)), (2, .int (nI (fw_ (mo_ σ) v h))), (0, .ref (adr X 28)), (1, .int (nI v))] σ 4 []) (fun _ _ => True) 8 ?_ ?_ 0 () (Nat.zero_le _) trivial
  · exact lp
  · intro _ _
    refine qv_iload_n F d_M_fitting_4 0 rfl ?_
    refine qv_bipush F (nI 8) d_M_fitting_5 bic_8 ?_
    refine qv_icmpge F d_M_fitting_7 rfl (by decide) (by decide) (fun hb => ?_) (fun hb => ?_)
    ·
      refine qv_iload_n F d_M_fitting_36 1 rfl ?_
      exact qv_iret F hr hlk d_M_fitting_37 (ei_of rfl rfl)
    ·
      exact absurd hb (by decide)
  · intro h _ hh _ ih
    have ih := ih () trivial
    rw [← fw_st] at ih
    have q5 := h5 h
    have q6 := h6 v
    have hp : (σ 30 v / 2 ^ σ 29 h &&& 1) * 2 ^ h < 2 ^ 32 := by
      rw [bt_and]
      have h1 := bn_le ((σ 30 v).testBit (σ 29 h))
      have h2 : 2 ^ h ≤ 2 ^ 8 := Nat.pow_le_pow_right (by decide) (by omega)
      have h3 := Nat.mul_le_mul h1 h2
      omega
    refine qv_iload_n F d_M_fitting_4 0 rfl ?_
    refine qv_bipush F (nI 8) d_M_fitting_5 bic_8 ?_
    refine qv_icmpge F d_M_fitting_7 rfl (by omega) (by omega) (fun hb => ?_) (fun hb => ?_)
    ·
      omega
    ·
      refine qv_iload_n F d_M_fitting_10 1 rfl ?_
      refine qv_aload_n F d_M_fitting_11 2 rfl ?_
      refine g_M_13 F d_M_fitting_12 ?_
      refine qv_iload_n F d_M_fitting_15 3 rfl ?_
      refine ld_30 F hv d_M_fitting_16 ?_
      refine qv_aload_n F d_M_fitting_17 2 rfl ?_
      refine g_M_7 F d_M_fitting_18 ?_
      refine qv_iload_n F d_M_fitting_21 0 rfl ?_
      refine ld_29 F hh d_M_fitting_22 ?_
      refine qv_ishr F d_M_fitting_23 (by omega) (by omega) ?_
      refine qv_iconst F (nI 1) d_M_fitting_24 ic_1 ?_
      refine qv_iand F d_M_fitting_25 ?_
      refine qv_iload_n F d_M_fitting_26 0 rfl ?_
      refine qv_ishl F d_M_fitting_27 (by omega) hp ?_
      refine qv_ior F d_M_fitting_28 ?_
      refine qv_istore_n (L' := [(2, _), (3, _), (0, _), (1, _)]) F d_M_fitting_29 (by decide) rfl ?_
      refine qv_sub (L' := [(3, _), (2, _), (0, _), (1, _)]) [1, 0, 2, 3] rfl ?_
      refine qv_iinc (L' := [(3, _), (2, _), (0, _), (1, _)]) F _ d_M_fitting_30 0 rfl (ii_1 _) (by decide) rfl ?_
      refine qv_goto F d_M_fitting_33 rfl ?_
      exact ih

