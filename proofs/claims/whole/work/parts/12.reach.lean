/-! contexts: who reaches whom, counts -/
set_option maxRecDepth 100000 in
set_option maxHeartbeats 4000000 in
theorem c_N_findReached (l : Launch) (X : wX) (σ : sg) (hn : σ 1 7 ≤ 8) (h11 : ∀ k, σ 11 k < 4) (h12 : ∀ k, σ 12 k < 4) : mt_ l X y_N_findReached w_N_findReached 1 [.ref (adr X 2), .ref (adr X 1)] σ (ev_ (ua σ 19 (mk_ (wc_ (c0_ σ (σ 1 7)))))) := by
  refine mt_of (own := R_N) rfl pl_N (Nat.le_of_ble_eq_true rfl) ?_
  intro zp ze zs zm za zb zt zc F hr hlk
  refine qv_sub (L' := [(0, _), (1, _)]) [0, 1] rfl ?_
  refine qv_aload_n F d_N_findReached_0 0 rfl ?_
  refine g_N_22 F d_N_findReached_1 ?_
  refine qv_iconst F (nI 0) d_N_findReached_4 ic_0 ?_
  refine i_N_28v F (c_A_fill l X σ 19 4 0 rfl (by decide)) (by decide) (Nat.le_of_ble_eq_true rfl) d_N_findReached_5 ?_
  refine qv_iconst F (nI 0) d_N_findReached_8 ic_0 ?_
  refine qv_istore_n (L' := [(2, _), (0, _), (1, _)]) F d_N_findReached_9 (by decide) rfl ?_
  have lp := lu_up (fun i (g : Nat → Nat) => vv_ zp l ze (rr_ 1) zs zm za zb zt zc (MQ zb (mq_ X (ev_ (ua σ 19 (mk_ (wc_ (c0_ σ (σ 1 7))))))) za zs 0 0 (aw_ X)) X 4 [(2, .int (nI i)), (0, .ref (adr X 2)), (1, .ref (adr X 1))] (ua σ 19 g) 10 []) (fun i g => ∀ a, a < 4 → g a < 16 ∧ ∀ b, b < 4 → (g a).testBit b = c0_ σ i a b) (σ 1 7) ?_ ?_ 0 (fun _ => 0) (Nat.zero_le _) (fun a ha => ⟨by decide, fun b hb => Nat.zero_testBit b⟩)
  · exact lp
  · intro g hg
    refine qv_iload_n F d_N_findReached_10 0 rfl ?_
    refine qv_aload_n F d_N_findReached_11 2 rfl ?_
    refine g_N_44 F d_N_findReached_12 ?_
    refine qv_icmpge F d_N_findReached_15 rfl (show σ 1 7 < 2 ^ 31 by omega) (show σ 1 7 < 2 ^ 31 by omega) (fun hb => ?_) (fun hb => ?_)
    ·
      refine qv_iconst F (nI 0) d_N_findReached_46 ic_0 ?_
      refine qv_istore_n (L' := [(2, _), (0, _), (1, _)]) F d_N_findReached_47 (by decide) rfl ?_
      have lpm := lu_up (fun mm (g : Nat → Nat) => vv_ zp l ze (rr_ 1) zs zm za zb zt zc (MQ zb (mq_ X (ev_ (ua σ 19 (mk_ (wc_ (c0_ σ (σ 1 7))))))) za zs 0 0 (aw_ X)) X 4 [(2, .int (nI mm)), (0, .ref (adr X 2)), (1, .ref (adr X 1))] (ua σ 19 g) 48 []) (fun mm g => ∀ a, a < 4 → g a < 16 ∧ ∀ b, b < 4 → (g a).testBit b = ww_ (c0_ σ (σ 1 7)) mm a b) 4 ?_ ?_ 0 g (Nat.zero_le _) hg
      · exact lpm
      · intro g hg
        refine qv_iload_n F d_N_findReached_48 0 rfl ?_
        refine qv_iconst F (nI 4) d_N_findReached_49 ic_4 ?_
        refine qv_icmpge F d_N_findReached_50 rfl (by decide) (by decide) (fun hb => ?_) (fun hb => ?_)
        ·
          refine qv_ext 19 (z := false) (n := 4) (g := mk_ (wc_ (c0_ σ (σ 1 7)))) rfl (fun a ha => ?_) ?_
          · show mk_ (wc_ (c0_ σ (σ 1 7))) a = g a
            exact (mk_of (hg a ha).1 (hg a ha).2).symm
          ·
            exact qv_ret F hr hlk d_N_findReached_100 (ev_of (ua_ua σ 19 g _))
        ·
          exact absurd hb (by decide)
      · intro mm g hm hg ih
        refine qv_iload_n F d_N_findReached_48 0 rfl ?_
        refine qv_iconst F (nI 4) d_N_findReached_49 ic_4 ?_
        refine qv_icmpge F d_N_findReached_50 rfl (by omega) (by omega) (fun hb => ?_) (fun hb => ?_)
        ·
          omega
        ·
          refine qv_iconst F (nI 0) d_N_findReached_53 ic_0 ?_
          refine qv_istore_n (L' := [(3, _), (2, _), (0, _), (1, _)]) F d_N_findReached_54 (by decide) rfl ?_
          have hw : ∀ a b, ww_ (c0_ σ (σ 1 7)) (mm + 1) a b = w1_ mm (ww_ (c0_ σ (σ 1 7)) mm) a b := fun _ _ => rfl
          generalize ww_ (c0_ σ (σ 1 7)) mm = C at hg hw
          have lpi := lu_up (fun i (g : Nat → Nat) => vv_ zp l ze (rr_ 1) zs zm za zb zt zc (MQ zb (mq_ X (ev_ (ua σ 19 (mk_ (wc_ (c0_ σ (σ 1 7))))))) za zs 0 0 (aw_ X)) X 4 [(3, .int (nI i)), (2, .int (nI mm)), (0, .ref (adr X 2)), (1, .ref (adr X 1))] (ua σ 19 g) 55 []) (fun i g => ∀ a, a < 4 → g a < 16 ∧ ∀ b, b < 4 → (g a).testBit b = if a < i then w1_ mm C a b else C a b) 4 ?_ ?_ 0 g (Nat.zero_le _) (fun a ha => ⟨(hg a ha).1, fun b hb => by rw [if_neg (by omega)]; exact (hg a ha).2 b hb⟩)
          · exact lpi
          · intro g hg
            refine qv_iload_n F d_N_findReached_55 0 rfl ?_
            refine qv_iconst F (nI 4) d_N_findReached_56 ic_4 ?_
            refine qv_icmpge F d_N_findReached_57 rfl (by decide) (by decide) (fun hb => ?_) (fun hb => ?_)
            ·
              refine qv_sub (L' := [(2, _), (0, _), (1, _)]) [1, 2, 3] rfl ?_
              refine qv_iinc (L' := [(2, _), (0, _), (1, _)]) F _ d_N_findReached_94 0 rfl (ii_1 _) (by decide) rfl ?_
              refine qv_goto F d_N_findReached_97 rfl ?_
              refine ih g (fun a ha => ⟨(hg a ha).1, fun b hb => ?_⟩)
              rw [(hg a ha).2 b hb, if_pos ha, hw]
            ·
              exact absurd hb (by decide)
          · intro i g hi hg ihi
            have b1 := (hg i hi).1
            have hgi : (g i).testBit mm = C i mm := by rw [(hg i hi).2 mm hm, if_neg (by omega)]
            have hgm : ∀ b, b < 4 → (g mm).testBit b = C mm b := fun b hb => by
              rw [(hg mm hm).2 b hb]
              by_cases e : mm < i
              · rw [if_pos e]; exact w1_row mm C b
              · rw [if_neg e]
            refine qv_iload_n F d_N_findReached_55 0 rfl ?_
            refine qv_iconst F (nI 4) d_N_findReached_56 ic_4 ?_
            refine qv_icmpge F d_N_findReached_57 rfl (by omega) (by omega) (fun hb => ?_) (fun hb => ?_)
            ·
              omega
            ·
              refine qv_aload_n F d_N_findReached_60 2 rfl ?_
              refine g_N_22 F d_N_findReached_61 ?_
              refine qv_iload_n F d_N_findReached_64 0 rfl ?_
              refine ld_19 F hi d_N_findReached_65 ?_
              refine qv_iload_n F d_N_findReached_66 1 rfl ?_
              refine i_N_53i F (c_P_hasBit l X (ua σ 19 g) (g i) mm (by omega) (by omega)) (by decide) (Nat.le_of_ble_eq_true rfl) d_N_findReached_67 ?_
              refine qv_ifeqB F d_N_findReached_70 rfl (fun hb => ?_) (fun hb => ?_)
              ·
                refine qv_iinc (L' := [(3, _), (2, _), (0, _), (1, _)]) F _ d_N_findReached_88 0 rfl (ii_1 _) (by decide) rfl ?_
                refine qv_goto F d_N_findReached_91 rfl ?_
                refine ihi g (fun a ha => ⟨(hg a ha).1, fun b hb2 => ?_⟩)
                rw [(hg a ha).2 b hb2]
                by_cases e : a = i
                · subst e
                  rw [if_neg (by omega), if_pos (by omega)]
                  unfold w1_
                  rw [← hgi, hb, Bool.false_and, Bool.or_false]
                · by_cases e2 : a < i
                  · rw [if_pos e2, if_pos (by omega)]
                  · rw [if_neg e2, if_neg (by omega)]
              ·
                refine qv_aload_n F d_N_findReached_73 2 rfl ?_
                refine g_N_22 F d_N_findReached_74 ?_
                refine qv_iload_n F d_N_findReached_77 0 rfl ?_
                refine qv_dup2 F d_N_findReached_78 rfl rfl ?_
                refine ld_19 F hi d_N_findReached_79 ?_
                refine qv_aload_n F d_N_findReached_80 2 rfl ?_
                refine g_N_22 F d_N_findReached_81 ?_
                refine qv_iload_n F d_N_findReached_84 1 rfl ?_
                refine ld_19 F hm d_N_findReached_85 ?_
                refine qv_ior F d_N_findReached_86 ?_
                refine sv_19 F hi d_N_findReached_87 ?_
                refine qv_st (us_ua σ 19 g i (g i ||| g mm)) ?_
                refine qv_iinc (L' := [(3, _), (2, _), (0, _), (1, _)]) F _ d_N_findReached_88 0 rfl (ii_1 _) (by decide) rfl ?_
                refine qv_goto F d_N_findReached_91 rfl ?_
                refine ihi _ (fun a ha => ⟨?_, fun b hb2 => ?_⟩)
                · by_cases e : a = i
                  · subst e; rw [up_eq]; exact or_16 (hg a ha).1 (hg mm hm).1
                  · rw [up_ne e]; exact (hg a ha).1
                · by_cases e : a = i
                  · subst e
                    rw [up_eq, Nat.testBit_or, (hg a ha).2 b hb2, hgm b hb2, if_neg (by omega), if_pos (by omega)]
                    unfold w1_
                    rw [← hgi, hb, Bool.true_and]
                  · rw [up_ne e, (hg a ha).2 b hb2]
                    by_cases e2 : a < i
                    · rw [if_pos e2, if_pos (by omega)]
                    · rw [if_neg e2, if_neg (by omega)]
    ·
      exact absurd (show σ 1 7 < σ 1 7 from hb) (by omega)
  · intro i g hi hg ih
    have q11 := h11 i
    have q12 := h12 i
    have hp : 1 * 2 ^ σ 12 i < 2 ^ 4 := by rw [Nat.one_mul]; exact Nat.pow_lt_pow_right (by decide) q12
    have hp2 : 1 * 2 ^ σ 12 i < 2 ^ 32 := Nat.lt_trans hp (by decide)
    refine qv_iload_n F d_N_findReached_10 0 rfl ?_
    refine qv_aload_n F d_N_findReached_11 2 rfl ?_
    refine g_N_44 F d_N_findReached_12 ?_
    refine qv_icmpge F d_N_findReached_15 rfl (by omega) (show σ 1 7 < 2 ^ 31 by omega) (fun hb => ?_) (fun hb => ?_)
    ·
      exact absurd (show σ 1 7 ≤ i from hb) (by omega)
    ·
      refine qv_aload_n F d_N_findReached_18 1 rfl ?_
      refine g_N_22 F d_N_findReached_19 ?_
      refine qv_aload_n F d_N_findReached_22 2 rfl ?_
      refine g_N_47 F d_N_findReached_23 ?_
      refine qv_iload_n F d_N_findReached_26 0 rfl ?_
      refine ld_11 F (show i < 8 by omega) d_N_findReached_27 ?_
      refine qv_dup2 F d_N_findReached_28 rfl rfl ?_
      refine ld_19 F q11 d_N_findReached_29 ?_
      refine qv_iconst F (nI 1) d_N_findReached_30 ic_1 ?_
      refine qv_aload_n F d_N_findReached_31 2 rfl ?_
      refine g_N_50 F d_N_findReached_32 ?_
      refine qv_iload_n F d_N_findReached_35 0 rfl ?_
      refine ld_12 F (show i < 8 by omega) d_N_findReached_36 ?_
      refine qv_ishl F d_N_findReached_37 (show σ 12 i < 32 by omega) hp2 ?_
      refine qv_ior F d_N_findReached_38 ?_
      refine sv_19 F q11 d_N_findReached_39 ?_
      refine qv_st (us_ua σ 19 g (σ 11 i) (g (σ 11 i) ||| 1 * 2 ^ σ 12 i)) ?_
      refine qv_iinc (L' := [(2, _), (0, _), (1, _)]) F _ d_N_findReached_40 0 rfl (ii_1 _) (by decide) rfl ?_
      refine qv_goto F d_N_findReached_43 rfl ?_
      refine ih _ (fun a ha => ⟨?_, fun b hb => c0_row q12 hb ((hg a ha).2 b hb)⟩)
      by_cases e : a = σ 11 i
      · subst e; rw [up_eq]; exact or_16 (hg _ ha).1 hp
      · rw [up_ne e]; exact (hg a ha).1

