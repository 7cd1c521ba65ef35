/-! drawing -/
set_option maxRecDepth 100000 in
set_option maxHeartbeats 4000000 in
theorem c_A_rangeCheck (l : Launch) (X : wX) (σ : sg) (n a b : Nat) (hn : n < 2 ^ 31) (h1 : a ≤ b) (h2 : b ≤ n) : mt_ l X y_A_rangeCheck w_A_rangeCheck 0 [.int (nI n), .int (nI a), .int (nI b)] σ (ev_ σ) := by
  refine mt_of (own := R_A) rfl pl_A (Nat.le_of_ble_eq_true rfl) ?_
  intro zp ze zs zm za zb zt zc F hr hlk
  refine qv_sub (L' := [(0, _), (1, _), (2, _)]) [0, 1, 2] rfl ?_
  refine qv_iload_n F d_A_rangeCheck_0 1 rfl ?_
  refine qv_iload_n F d_A_rangeCheck_1 2 rfl ?_
  refine qv_icmple F d_A_rangeCheck_2 rfl (by omega) (by omega) (fun hb => ?_) (fun hb => ?_)
  ·
    refine qv_iload_n F d_A_rangeCheck_46 1 rfl ?_
    refine qv_ifge F d_A_rangeCheck_47 (tgt := 59) rfl (by omega) ?_
    refine qv_iload_n F d_A_rangeCheck_59 2 rfl ?_
    refine qv_iload_n F d_A_rangeCheck_60 0 rfl ?_
    refine qv_icmple F d_A_rangeCheck_61 rfl (by omega) (by omega) (fun hb => ?_) (fun hb => ?_)
    ·
      exact qv_ret F hr hlk d_A_rangeCheck_73 (ev_of rfl)
    ·
      omega
  ·
    omega
set_option maxRecDepth 100000 in
set_option maxHeartbeats 4000000 in
theorem c_A_fill4 (l : Launch) (X : wX) (σ : sg) (q n a b x : Nat) (hq : dz_[q]? = some (.inl (false, n))) (hnq : n < 2 ^ 31) (h1 : a ≤ b) (h2 : b ≤ n) : mt_ l X y_A_fill4 w_A_fill4 1 [.ref (adr X q), .int (nI a), .int (nI b), .int (nI x)] σ (ev_ (ua σ q (fun k => if a ≤ k ∧ k < b then x else σ q k))) := by
  refine mt_of (own := R_A) rfl pl_A (Nat.le_of_ble_eq_true rfl) ?_
  intro zp ze zs zm za zb zt zc F hr hlk
  refine qv_sub (L' := [(0, _), (1, _), (2, _), (3, _)]) [0, 1, 2, 3] rfl ?_
  refine qv_aload_n F d_A_fill4_0 0 rfl ?_
  refine qv_alen F q hq d_A_fill4_1 ?_
  refine qv_iload_n F d_A_fill4_2 1 rfl ?_
  refine qv_iload_n F d_A_fill4_3 2 rfl ?_
  refine i_A_13v F (c_A_rangeCheck l X σ n a b hnq h1 h2) (by decide) (Nat.le_of_ble_eq_true rfl) d_A_fill4_4 ?_
  refine qv_iload_n F d_A_fill4_7 1 rfl ?_
  refine qv_istore (L' := [(4, _), (0, _), (1, _), (2, _), (3, _)]) F d_A_fill4_8 (by decide) rfl ?_
  have lp := lu_up (fun i (g : Nat → Nat) => vv_ zp l ze (rr_ 1) zs zm za zb zt zc (MQ zb (mq_ X (ev_ (ua σ q (fun k => if a ≤ k ∧ k < b then x else σ q k)))) za zs 0 0 (aw_ X)) X 5 [(4, .int (nI i)), (0, .ref (adr X q)), (1, .int (nI a)), (2, .int (nI b)), (3, .int (nI x))] (ua σ q g) 10 []) (fun i g => a ≤ i ∧ ∀ k, g k = if a ≤ k ∧ k < i then x else σ q k) b ?_ ?_ a (σ q) h1 ⟨Nat.le_refl _, fun k => by rw [if_neg (by omega)]⟩
  · exact qv_st (ua_id σ q).symm lp
  · intro g hg
    have e : g = fun k => if a ≤ k ∧ k < b then x else σ q k := by funext k; exact hg.2 k
    subst e
    refine qv_iload F d_A_fill4_10 0 rfl ?_
    refine qv_iload_n F d_A_fill4_12 3 rfl ?_
    refine qv_icmpge F d_A_fill4_13 rfl (by omega) (by omega) (fun hb => ?_) (fun hb => ?_)
    ·
      exact qv_ret F hr hlk d_A_fill4_27 (ev_of rfl)
    ·
      omega
  · intro i g hi hg ih
    refine qv_iload F d_A_fill4_10 0 rfl ?_
    refine qv_iload_n F d_A_fill4_12 3 rfl ?_
    refine qv_icmpge F d_A_fill4_13 rfl (by omega) (by omega) (fun hb => ?_) (fun hb => ?_)
    ·
      omega
    ·
      refine qv_aload_n F d_A_fill4_16 1 rfl ?_
      refine qv_iload F d_A_fill4_17 0 rfl ?_
      refine qv_iload_n F d_A_fill4_19 4 rfl ?_
      refine qv_iast F q hq (by omega) hnq d_A_fill4_20 ?_
      refine qv_st (us_ua σ q g i x) ?_
      refine qv_iinc (L' := [(4, _), (0, _), (1, _), (2, _), (3, _)]) F _ d_A_fill4_21 0 rfl (ii_1 _) (by decide) rfl ?_
      refine qv_goto F d_A_fill4_24 rfl ?_
      refine ih _ ⟨by omega, fun k => ?_⟩
      by_cases e : k = i
      · subst e; rw [up_eq, if_pos (by omega)]
      · rw [up_ne e, hg.2 k]
        by_cases e2 : a ≤ k ∧ k < i
        · rw [if_pos e2, if_pos (by omega)]
        · rw [if_neg e2, if_neg (by omega)]
set_option maxRecDepth 100000 in
set_option maxHeartbeats 4000000 in
theorem c_D_begin (l : Launch) (X : wX) (σ : sg) (w o : Nat) (hw : w < 2) (ho : o < 6) : mt_ l X y_D_begin w_D_begin 2 [.ref (adr X 4), .int (nI w), .int (nI o)] σ (ev_ (dg_ σ w o (fun k => if k < rw_ w then 0 else σ 25 k))) := by
  refine mt_of (own := R_D) rfl pl_D (Nat.le_of_ble_eq_true rfl) ?_
  intro zp ze zs zm za zb zt zc F hr hlk
  refine qv_sub (L' := [(0, _), (1, _), (2, _)]) [0, 1, 2] rfl ?_
  obtain ⟨t1, t2, z1, z2, z3, z4⟩ := F.2.2.2.2
  have hst : ∀ i, i < 18 → staT.getD i 0 < 3 := by decide
  have hbt : ∀ i, i < 6 → bitT.getD i 0 ≤ 4 := by decide
  have s2 := hst (o * 3 + 2) (by omega)
  have s1 := hst (o * 3 + 1) (by omega)
  have s0 := hst (o * 3 + 0) (by omega)
  have b2 := hbt (w * 3 + staT.getD (o * 3 + 2) 0) (by omega)
  have b1 := hbt (w * 3 + staT.getD (o * 3 + 1) 0) (by omega)
  have b0 := hbt (w * 3 + staT.getD (o * 3 + 0) 0) (by omega)
  refine qv_iconst F (nI 0) d_D_begin_0 ic_0 ?_
  refine qv_istore_n (L' := [(3, _), (0, _), (1, _), (2, _)]) F d_D_begin_1 (by decide) rfl ?_
  refine qv_iconst F (nI 2) d_D_begin_2 ic_2 ?_
  refine qv_istore (L' := [(4, _), (3, _), (0, _), (1, _), (2, _)]) F d_D_begin_3 (by decide) rfl ?_
  refine qv_iload F d_D_begin_5 0 rfl ?_
  refine qv_ifltF F d_D_begin_7 (tgt := 49) rfl (by decide) ?_
  refine qv_gets F z3 (by decide +kernel) d_D_begin_10 ?_
  refine qv_iload_n F d_D_begin_13 4 rfl ?_
  refine qv_iconst F (nI 3) d_D_begin_14 ic_3 ?_
  refine qv_imul F d_D_begin_15 ?_
  refine qv_iload F d_D_begin_16 0 rfl ?_
  refine qv_iadd F d_D_begin_18 ?_
  refine qv_tald F z4 (by omega) (by decide) d_D_begin_19 ?_
  refine qv_istore (L' := [(5, _), (4, _), (3, _), (0, _), (1, _), (2, _)]) F d_D_begin_20 (by decide) rfl ?_
  refine qv_aload_n F d_D_begin_22 3 rfl ?_
  refine g_D_11 F d_D_begin_23 ?_
  refine qv_iload F d_D_begin_26 0 rfl ?_
  refine qv_iload_n F d_D_begin_28 2 rfl ?_
  refine sv_24 F s2 d_D_begin_29 ?_
  refine qv_iload_n F d_D_begin_30 2 rfl ?_
  refine qv_gets F z1 (by decide +kernel) d_D_begin_31 ?_
  refine qv_iload_n F d_D_begin_34 4 rfl ?_
  refine qv_iconst F (nI 3) d_D_begin_35 ic_3 ?_
  refine qv_imul F d_D_begin_36 ?_
  refine qv_iload F d_D_begin_37 0 rfl ?_
  refine qv_iadd F d_D_begin_39 ?_
  refine qv_tald F z2 (by omega) (by decide) d_D_begin_40 ?_
  refine qv_iadd F d_D_begin_41 ?_
  refine qv_istore_n (L' := [(3, _), (5, _), (4, _), (0, _), (1, _), (2, _)]) F d_D_begin_42 (by decide) rfl ?_
  refine qv_iinc (L' := [(4, _), (3, _), (5, _), (0, _), (1, _), (2, _)]) F _ d_D_begin_43 2 rfl (show nI 2 + Int32.ofInt (-1) = nI 1 by decide) (by decide) rfl ?_
  refine qv_goto F d_D_begin_46 rfl ?_
  refine qv_iload F d_D_begin_5 0 rfl ?_
  refine qv_ifltF F d_D_begin_7 (tgt := 49) rfl (by decide) ?_
  refine qv_gets F z3 (by decide +kernel) d_D_begin_10 ?_
  refine qv_iload_n F d_D_begin_13 5 rfl ?_
  refine qv_iconst F (nI 3) d_D_begin_14 ic_3 ?_
  refine qv_imul F d_D_begin_15 ?_
  refine qv_iload F d_D_begin_16 0 rfl ?_
  refine qv_iadd F d_D_begin_18 ?_
  refine qv_tald F z4 (by omega) (by decide) d_D_begin_19 ?_
  refine qv_istore (L' := [(5, _), (4, _), (3, _), (0, _), (1, _), (2, _)]) F d_D_begin_20 (by decide) rfl ?_
  refine qv_aload_n F d_D_begin_22 3 rfl ?_
  refine g_D_11 F d_D_begin_23 ?_
  refine qv_iload F d_D_begin_26 0 rfl ?_
  refine qv_iload_n F d_D_begin_28 2 rfl ?_
  refine sv_24 F s1 d_D_begin_29 ?_
  refine qv_iload_n F d_D_begin_30 2 rfl ?_
  refine qv_gets F z1 (by decide +kernel) d_D_begin_31 ?_
  refine qv_iload_n F d_D_begin_34 4 rfl ?_
  refine qv_iconst F (nI 3) d_D_begin_35 ic_3 ?_
  refine qv_imul F d_D_begin_36 ?_
  refine qv_iload F d_D_begin_37 0 rfl ?_
  refine qv_iadd F d_D_begin_39 ?_
  refine qv_tald F z2 (by omega) (by decide) d_D_begin_40 ?_
  refine qv_iadd F d_D_begin_41 ?_
  refine qv_istore_n (L' := [(3, _), (5, _), (4, _), (0, _), (1, _), (2, _)]) F d_D_begin_42 (by decide) rfl ?_
  refine qv_iinc (L' := [(4, _), (3, _), (5, _), (0, _), (1, _), (2, _)]) F _ d_D_begin_43 2 rfl (show nI 1 + Int32.ofInt (-1) = nI 0 by decide) (by decide) rfl ?_
  refine qv_goto F d_D_begin_46 rfl ?_
  refine qv_iload F d_D_begin_5 0 rfl ?_
  refine qv_ifltF F d_D_begin_7 (tgt := 49) rfl (by decide) ?_
  refine qv_gets F z3 (by decide +kernel) d_D_begin_10 ?_
  refine qv_iload_n F d_D_begin_13 5 rfl ?_
  refine qv_iconst F (nI 3) d_D_begin_14 ic_3 ?_
  refine qv_imul F d_D_begin_15 ?_
  refine qv_iload F d_D_begin_16 0 rfl ?_
  refine qv_iadd F d_D_begin_18 ?_
  refine qv_tald F z4 (by omega) (by decide) d_D_begin_19 ?_
  refine qv_istore (L' := [(5, _), (4, _), (3, _), (0, _), (1, _), (2, _)]) F d_D_begin_20 (by decide) rfl ?_
  refine qv_aload_n F d_D_begin_22 3 rfl ?_
  refine g_D_11 F d_D_begin_23 ?_
  refine qv_iload F d_D_begin_26 0 rfl ?_
  refine qv_iload_n F d_D_begin_28 2 rfl ?_
  refine sv_24 F s0 d_D_begin_29 ?_
  refine qv_iload_n F d_D_begin_30 2 rfl ?_
  refine qv_gets F z1 (by decide +kernel) d_D_begin_31 ?_
  refine qv_iload_n F d_D_begin_34 4 rfl ?_
  refine qv_iconst F (nI 3) d_D_begin_35 ic_3 ?_
  refine qv_imul F d_D_begin_36 ?_
  refine qv_iload F d_D_begin_37 0 rfl ?_
  refine qv_iadd F d_D_begin_39 ?_
  refine qv_tald F z2 (by omega) (by decide) d_D_begin_40 ?_
  refine qv_iadd F d_D_begin_41 ?_
  refine qv_istore_n (L' := [(3, _), (5, _), (4, _), (0, _), (1, _), (2, _)]) F d_D_begin_42 (by decide) rfl ?_
  refine qv_iinc (L' := [(4, _), (3, _), (5, _), (0, _), (1, _), (2, _)]) F _ d_D_begin_43 2 rfl (show nI 0 + Int32.ofInt (-1) = (-1) by decide) (by decide) rfl ?_
  refine qv_goto F d_D_begin_46 rfl ?_
  refine qv_iload F d_D_begin_5 0 rfl ?_
  refine qv_ifltT F d_D_begin_7 (tgt := 49) rfl (by decide) ?_
  have hp : 1 * 2 ^ (0 + bitT.getD (w * 3 + staT.getD (o * 3 + 2) 0) 0 + bitT.getD (w * 3 + staT.getD (o * 3 + 1) 0) 0 + bitT.getD (w * 3 + staT.getD (o * 3 + 0) 0) 0) < 2 ^ 32 := by
    rw [bg_rw hw ho]
    exact Nat.lt_of_le_of_lt (rw_le w) (by decide)
  refine qv_aload_n F d_D_begin_49 3 rfl ?_
  refine qv_iconst F (nI 1) d_D_begin_50 ic_1 ?_
  refine qv_iload_n F d_D_begin_51 1 rfl ?_
  refine qv_ishl F d_D_begin_52 (by omega) hp ?_
  rw [bg_rw hw ho]
  refine p_D_18 F d_D_begin_53 ?_
  refine qv_aload_n F d_D_begin_56 3 rfl ?_
  refine g_D_15 F d_D_begin_57 ?_
  refine qv_iconst F (nI 0) d_D_begin_60 ic_0 ?_
  refine qv_aload_n F d_D_begin_61 3 rfl ?_
  refine g_D_18 F d_D_begin_62 ?_
  refine qv_iconst F (nI 0) d_D_begin_65 ic_0 ?_
  refine i_D_37v F (c_A_fill4 l X _ 25 1024 0 (rw_ w) 0 rfl (by decide) (Nat.zero_le _) (rw_le w)) (by decide) (Nat.le_of_ble_eq_true rfl) d_D_begin_66 ?_
  refine qv_ext 24 (z := false) (n := 3) (g := sh_ w o) rfl (fun k hk => (bg_sh (σ 24) hw ho k hk).trans ?_) ?_
  · show bgc_ (σ 24) w o k = us (us (us σ 24 (staT.getD (o * 3 + 2) 0) 0) 24 (staT.getD (o * 3 + 1) 0) (0 + bitT.getD (w * 3 + staT.getD (o * 3 + 2) 0) 0)) 24 (staT.getD (o * 3 + 0) 0) (0 + bitT.getD (w * 3 + staT.getD (o * 3 + 2) 0) 0 + bitT.getD (w * 3 + staT.getD (o * 3 + 1) 0) 0) 24 k
    rfl
  · refine qv_st (σ' := dg_ σ w o (fun k => if k < rw_ w then 0 else σ 25 k)) ?_ ?_
    · have e : (fun k => if 0 ≤ k ∧ k < rw_ w then 0 else σ 25 k) = fun k => if k < rw_ w then 0 else σ 25 k := by
        funext k
        by_cases hk : k < rw_ w
        · rw [if_pos hk, if_pos ⟨Nat.zero_le _, hk⟩]
        · rw [if_neg hk, if_neg (fun z => hk z.2)]
      rw [← bg_st σ (bgc_ (σ 24) w o) w o 0, ← e]
      have e2 : us (us (us σ 24 (staT.getD (o * 3 + 2) 0) 0) 24 (staT.getD (o * 3 + 1) 0) (0 + bitT.getD (w * 3 + staT.getD (o * 3 + 2) 0) 0)) 24 (staT.getD (o * 3 + 0) 0) (0 + bitT.getD (w * 3 + staT.getD (o * 3 + 2) 0) 0 + bitT.getD (w * 3 + staT.getD (o * 3 + 1) 0) 0) = ua σ 24 (bgc_ (σ 24) w o) := by
        unfold us
        rw [ua_ua, ua_ua]
        rfl
      rw [← e2]
      rfl
    ·
      exact qv_ret F hr hlk d_D_begin_69 (ev_of rfl)
set_option maxRecDepth 100000 in
set_option maxHeartbeats 4000000 in
theorem c_D_drawRows (l : Launch) (X : wX) (σ : sg) (w o a b x : Nat) (hw : w < 2) (ho : o < 6) (h24 : σ 24 = sh_ w o) (ha : a < 8) (hb0 : b < nb2_ w) (hx : x < 256) : mt_ l X y_D_drawRows w_D_drawRows 0 [.ref (adr X 4), .int (nI a), .int (nI b), .int (nI x)] σ (ev_ (ua σ 25 (if x = 0 then σ 25 else dr_ w o a b x 8 (σ 25)))) := by
  refine mt_of (own := R_D) rfl pl_D (Nat.le_of_ble_eq_true rfl) ?_
  intro zp ze zs zm za zb zt zc F hr hlk
  refine qv_sub (L' := [(0, _), (1, _), (2, _), (3, _)]) [0, 1, 2, 3] rfl ?_
  obtain ⟨s0, s1, s2⟩ := sh_7 hw ho
  have hb16 : b < 16 := by
    have h := hb0
    unfold nb2_ at h
    by_cases e : w = 0
    · rw [if_pos e] at h; exact h
    · rw [if_neg e] at h; omega
  have p0 := mul_p2 (s := sh_ w o 0) (show a < 16 by omega) s0
  have p1 := mul_p2 (s := sh_ w o 1) hb16 s1
  refine qv_iload_n F d_D_drawRows_0 3 rfl ?_
  refine qv_ifne F d_D_drawRows_1 rfl (by omega) (fun hb => ?_) (fun hb => ?_)
  ·
    rw [if_neg hb]
    refine qv_iload_n F d_D_drawRows_5 1 rfl ?_
    refine qv_aload_n F d_D_drawRows_6 0 rfl ?_
    refine g_D_11 F d_D_drawRows_7 ?_
    refine qv_iconst F (nI 0) d_D_drawRows_10 ic_0 ?_
    refine ld_24 F (by omega) d_D_drawRows_11 ?_
    refine qv_ishl F d_D_drawRows_12 (show σ 24 0 < 32 by rw [h24]; omega) (show a * 2 ^ σ 24 0 < 2 ^ 32 by rw [h24]; omega) ?_
    refine qv_iload_n F d_D_drawRows_13 2 rfl ?_
    refine qv_aload_n F d_D_drawRows_14 0 rfl ?_
    refine g_D_11 F d_D_drawRows_15 ?_
    refine qv_iconst F (nI 1) d_D_drawRows_18 ic_1 ?_
    refine ld_24 F (by omega) d_D_drawRows_19 ?_
    refine qv_ishl F d_D_drawRows_20 (show σ 24 1 < 32 by rw [h24]; omega) (show b * 2 ^ σ 24 1 < 2 ^ 32 by rw [h24]; omega) ?_
    refine qv_iadd F d_D_drawRows_21 ?_
    refine qv_istore (L' := [(4, _), (0, _), (1, _), (2, _), (3, _)]) F d_D_drawRows_22 (by decide) rfl ?_
    rw [h24]
    refine qv_iconst F (nI 0) d_D_drawRows_24 ic_0 ?_
    refine qv_istore (L' := [(5, _), (4, _), (0, _), (1, _), (2, _), (3, _)]) F d_D_drawRows_25 (by decide) rfl ?_
    have lp := lu_up (fun k (_ : Unit) => vv_ zp l ze (rr_ 0) zs zm za zb zt zc (MQ zb (mq_ X (ev_ (ua σ 25 (if x = 0 then σ 25 else dr_ w o a b x 8 (σ 25))))) za zs 0 0 (aw_ X)) X 6 [(5, .int (nI k)), (4, .int (nI (a * 2 ^ sh_ w o 0 + b * 2 ^ sh_ w o 1))), (0, .ref (adr X 4)), (1, .int (nI a)), (2, .int (nI b)), (3, .int (nI x))] (ua σ 25 (dr_ w o a b x k (σ 25))) 27 []) (fun _ _ => True) 8 ?_ ?_ 0 () (Nat.zero_le _) trivial
    · rw [if_neg hb] at lp
      exact qv_st (ua_id σ 25).symm lp
    · intro _ _
      rw [if_neg hb]
      refine qv_iload F d_D_drawRows_27 0 rfl ?_
      refine qv_bipush F (nI 8) d_D_drawRows_29 bic_8 ?_
      refine qv_icmpge F d_D_drawRows_31 rfl (by decide) (by decide) (fun hb => ?_) (fun hb => ?_)
      ·
        exact qv_ret F hr hlk d_D_drawRows_63 (ev_of rfl)
      ·
        exact absurd hb (by decide)
    · intro k _ hk _ ih
      have ih := ih () trivial
      have p2 := mul_p2 (s := sh_ w o 2) (show k < 16 by omega) s2
      have hix := ix_lt hw ho a b k ha hb0 hk
      have hrw := rw_le w
      have e1 : dr_ w o a b x (k + 1) (σ 25) = va_up (dr_ w o a b x k (σ 25)) (ix_ w o a b k) (x.testBit k).toNat := rfl
      rw [e1] at ih
      generalize dr_ w o a b x k (σ 25) = g at ih ⊢
      have e2 : us (ua σ 25 g) 25 (a * 2 ^ sh_ w o 0 + b * 2 ^ sh_ w o 1 + k * 2 ^ σ 24 2) (x / 2 ^ k &&& 1) = ua σ 25 (va_up g (ix_ w o a b k) (x.testBit k).toNat) := by
        rw [us_ua, bt_and, h24]
        rfl
      refine qv_iload F d_D_drawRows_27 0 rfl ?_
      refine qv_bipush F (nI 8) d_D_drawRows_29 bic_8 ?_
      refine qv_icmpge F d_D_drawRows_31 rfl (by omega) (by omega) (fun hb => ?_) (fun hb => ?_)
      ·
        omega
      ·
        refine qv_aload_n F d_D_drawRows_34 2 rfl ?_
        refine g_D_15 F d_D_drawRows_35 ?_
        refine qv_iload F d_D_drawRows_38 1 rfl ?_
        refine qv_iload F d_D_drawRows_40 0 rfl ?_
        refine qv_aload_n F d_D_drawRows_42 2 rfl ?_
        refine g_D_11 F d_D_drawRows_43 ?_
        refine qv_iconst F (nI 2) d_D_drawRows_46 ic_2 ?_
        refine ld_24 F (by omega) d_D_drawRows_47 ?_
        refine qv_ishl F d_D_drawRows_48 (show σ 24 2 < 32 by rw [h24]; omega) (show k * 2 ^ σ 24 2 < 2 ^ 32 by rw [h24]; omega) ?_
        refine qv_iadd F d_D_drawRows_49 ?_
        refine qv_iload_n F d_D_drawRows_50 5 rfl ?_
        refine qv_iload F d_D_drawRows_51 0 rfl ?_
        refine qv_ishr F d_D_drawRows_53 (by omega) (by omega) ?_
        refine qv_iconst F (nI 1) d_D_drawRows_54 ic_1 ?_
        refine qv_iand F d_D_drawRows_55 ?_
        refine sv_25 F (show a * 2 ^ sh_ w o 0 + b * 2 ^ sh_ w o 1 + k * 2 ^ σ 24 2 < 1024 by rw [h24]; exact Nat.lt_of_lt_of_le hix hrw) d_D_drawRows_56 ?_
        refine qv_st e2 ?_
        refine qv_iinc (L' := [(5, _), (4, _), (0, _), (1, _), (2, _), (3, _)]) F _ d_D_drawRows_57 0 rfl (ii_1 _) (by decide) rfl ?_
        refine qv_goto F d_D_drawRows_60 rfl ?_
        exact ih
  ·
    rw [if_pos hb, ua_id]
    exact qv_ret F hr hlk d_D_drawRows_4 (ev_of rfl)
set_option maxRecDepth 100000 in
set_option maxHeartbeats 4000000 in
theorem c_T_drawPoints (l : Launch) (X : wX) (σ : sg) (o : Nat) (ho : o < 6) (h21 : ∀ k, σ 21 k < 256) : mt_ l X y_T_drawPoints w_T_drawPoints 3 [.ref (adr X 3), .ref (adr X 4), .int (nI o)] σ (ev_ (dg_ σ 0 o (fun k => if k < rw_ 0 then fn_ 0 o (σ 21) k else σ 25 k))) := by
  refine mt_of (own := R_T) rfl pl_T (Nat.le_of_ble_eq_true rfl) ?_
  intro zp ze zs zm za zb zt zc F hr hlk
  refine qv_sub (L' := [(0, _), (1, _), (2, _)]) [0, 1, 2] rfl ?_
  refine qv_aload_n F d_T_drawPoints_0 1 rfl ?_
  refine qv_iconst F (nI 0) d_T_drawPoints_1 ic_0 ?_
  refine qv_iload_n F d_T_drawPoints_2 2 rfl ?_
  refine i_T_139v F (c_D_begin l X σ 0 o (by decide) ho) (by decide) (Nat.le_of_ble_eq_true rfl) d_T_drawPoints_3 ?_
  refine qv_iconst F (nI 0) d_T_drawPoints_6 ic_0 ?_
  refine qv_istore_n (L' := [(3, _), (0, _), (1, _), (2, _)]) F d_T_drawPoints_7 (by decide) rfl ?_
  have lp := lu_up (fun c (G : Nat → Nat) => vv_ zp l ze (rr_ 3) zs zm za zb zt zc (MQ zb (mq_ X (ev_ (dg_ σ 0 o (fun k => if k < rw_ 0 then fn_ 0 o (σ 21) k else σ 25 k)))) za zs 0 0 (aw_ X)) X 5 [(3, .int (nI c)), (0, .ref (adr X 3)), (1, .ref (adr X 4)), (2, .int (nI o))] (dg_ σ 0 o G) 8 []) (fun c G => dn_ 0 o (σ 21) (σ 25) c 0 G) 8 ?_ ?_ 0 (fun k => if k < rw_ 0 then 0 else σ 25 k) (Nat.zero_le _) dn_0
  · exact lp
  · intro G hG
    rw [dn_end hG]
    refine qv_iload_n F d_T_drawPoints_8 0 rfl ?_
    refine qv_bipush F (nI 8) d_T_drawPoints_9 bic_8 ?_
    refine qv_icmpge F d_T_drawPoints_11 rfl (by decide) (by decide) (fun hb => ?_) (fun hb => ?_)
    ·
      exact qv_ret F hr hlk d_T_drawPoints_50 (ev_of rfl)
    ·
      exact absurd hb (by decide)
  · intro c G hc hG ih
    refine qv_iload_n F d_T_drawPoints_8 0 rfl ?_
    refine qv_bipush F (nI 8) d_T_drawPoints_9 bic_8 ?_
    refine qv_icmpge F d_T_drawPoints_11 rfl (by omega) (by omega) (fun hb => ?_) (fun hb => ?_)
    ·
      omega
    ·
      refine qv_iconst F (nI 0) d_T_drawPoints_14 ic_0 ?_
      refine qv_istore (L' := [(4, _), (3, _), (0, _), (1, _), (2, _)]) F d_T_drawPoints_15 (by decide) rfl ?_
      have lp2 := lu_up (fun v (G : Nat → Nat) => vv_ zp l ze (rr_ 3) zs zm za zb zt zc (MQ zb (mq_ X (ev_ (dg_ σ 0 o (fun k => if k < rw_ 0 then fn_ 0 o (σ 21) k else σ 25 k)))) za zs 0 0 (aw_ X)) X 5 [(4, .int (nI v)), (3, .int (nI c)), (0, .ref (adr X 3)), (1, .ref (adr X 4)), (2, .int (nI o))] (dg_ σ 0 o G) 17 []) (fun v G => dn_ 0 o (σ 21) (σ 25) c v G) 16 ?_ ?_ 0 G (Nat.zero_le _) hG
      · exact lp2
      · intro G hG
        refine qv_iload F d_T_drawPoints_17 0 rfl ?_
        refine qv_bipush F (nI 16) d_T_drawPoints_19 bic_16 ?_
        refine qv_icmpge F d_T_drawPoints_21 rfl (by decide) (by decide) (fun hb => ?_) (fun hb => ?_)
        ·
          refine qv_sub (L' := [(3, _), (0, _), (1, _), (2, _)]) [1, 2, 3, 4] rfl ?_
          refine qv_iinc (L' := [(3, _), (0, _), (1, _), (2, _)]) F _ d_T_drawPoints_44 0 rfl (ii_1 _) (by decide) rfl ?_
          refine qv_goto F d_T_drawPoints_47 rfl ?_
          exact ih G (dn_next hG)
        ·
          exact absurd hb (by decide)
      · intro v G hv hG ih2
        refine qv_iload F d_T_drawPoints_17 0 rfl ?_
        refine qv_bipush F (nI 16) d_T_drawPoints_19 bic_16 ?_
        refine qv_icmpge F d_T_drawPoints_21 rfl (by omega) (by omega) (fun hb => ?_) (fun hb => ?_)
        ·
          omega
        ·
          refine qv_aload_n F d_T_drawPoints_24 3 rfl ?_
          refine qv_iload_n F d_T_drawPoints_25 1 rfl ?_
          refine qv_iload F d_T_drawPoints_26 0 rfl ?_
          refine qv_aload_n F d_T_drawPoints_28 2 rfl ?_
          refine qv_iload_n F d_T_drawPoints_29 1 rfl ?_
          refine qv_iload F d_T_drawPoints_30 0 rfl ?_
          refine i_T_96i F (c_T_pointedTo l X (dg_ σ 0 o G) c v (by omega)) (by decide) (Nat.le_of_ble_eq_true rfl) d_T_drawPoints_32 ?_
          refine i_T_145v F (c_D_drawRows l X (dg_ σ 0 o G) 0 o c v (σ 21 (c * 16 + v)) (by decide) ho rfl hc hv (h21 _)) (by decide) (Nat.le_of_ble_eq_true rfl) d_T_drawPoints_35 ?_
          rw [dg_G]
          refine qv_iinc (L' := [(4, _), (3, _), (0, _), (1, _), (2, _)]) F _ d_T_drawPoints_38 0 rfl (ii_1 _) (by decide) rfl ?_
          refine qv_goto F d_T_drawPoints_41 rfl ?_
          exact ih2 _ (dn_row (by decide) ho hc hv hG)
set_option maxRecDepth 100000 in
set_option maxHeartbeats 4000000 in
theorem c_T_drawHolds (l : Launch) (X : wX) (σ : sg) (o : Nat) (ho : o < 6) (h22 : ∀ k, σ 22 k < 256) : mt_ l X y_T_drawHolds w_T_drawHolds 3 [.ref (adr X 3), .ref (adr X 4), .int (nI o)] σ (ev_ (dg_ σ 1 o (fun k => if k < rw_ 1 then fn_ 1 o (σ 22) k else σ 25 k))) := by
  refine mt_of (own := R_T) rfl pl_T (Nat.le_of_ble_eq_true rfl) ?_
  intro zp ze zs zm za zb zt zc F hr hlk
  refine qv_sub (L' := [(0, _), (1, _), (2, _)]) [0, 1, 2] rfl ?_
  refine qv_aload_n F d_T_drawHolds_0 1 rfl ?_
  refine qv_iconst F (nI 1) d_T_drawHolds_1 ic_1 ?_
  refine qv_iload_n F d_T_drawHolds_2 2 rfl ?_
  refine i_T_139v F (c_D_begin l X σ 1 o (by decide) ho) (by decide) (Nat.le_of_ble_eq_true rfl) d_T_drawHolds_3 ?_
  refine qv_iconst F (nI 0) d_T_drawHolds_6 ic_0 ?_
  refine qv_istore_n (L' := [(3, _), (0, _), (1, _), (2, _)]) F d_T_drawHolds_7 (by decide) rfl ?_
  have lp := lu_up (fun c (G : Nat → Nat) => vv_ zp l ze (rr_ 3) zs zm za zb zt zc (MQ zb (mq_ X (ev_ (dg_ σ 1 o (fun k => if k < rw_ 1 then fn_ 1 o (σ 22) k else σ 25 k)))) za zs 0 0 (aw_ X)) X 5 [(3, .int (nI c)), (0, .ref (adr X 3)), (1, .ref (adr X 4)), (2, .int (nI o))] (dg_ σ 1 o G) 8 []) (fun c G => dn_ 1 o (σ 22) (σ 25) c 0 G) 8 ?_ ?_ 0 (fun k => if k < rw_ 1 then 0 else σ 25 k) (Nat.zero_le _) dn_0
  · exact lp
  · intro G hG
    rw [dn_end hG]
    refine qv_iload_n F d_T_drawHolds_8 0 rfl ?_
    refine qv_bipush F (nI 8) d_T_drawHolds_9 bic_8 ?_
    refine qv_icmpge F d_T_drawHolds_11 rfl (by decide) (by decide) (fun hb => ?_) (fun hb => ?_)
    ·
      exact qv_ret F hr hlk d_T_drawHolds_49 (ev_of rfl)
    ·
      exact absurd hb (by decide)
  · intro c G hc hG ih
    refine qv_iload_n F d_T_drawHolds_8 0 rfl ?_
    refine qv_bipush F (nI 8) d_T_drawHolds_9 bic_8 ?_
    refine qv_icmpge F d_T_drawHolds_11 rfl (by omega) (by omega) (fun hb => ?_) (fun hb => ?_)
    ·
      omega
    ·
      refine qv_iconst F (nI 0) d_T_drawHolds_14 ic_0 ?_
      refine qv_istore (L' := [(4, _), (3, _), (0, _), (1, _), (2, _)]) F d_T_drawHolds_15 (by decide) rfl ?_
      have lp2 := lu_up (fun v (G : Nat → Nat) => vv_ zp l ze (rr_ 3) zs zm za zb zt zc (MQ zb (mq_ X (ev_ (dg_ σ 1 o (fun k => if k < rw_ 1 then fn_ 1 o (σ 22) k else σ 25 k)))) za zs 0 0 (aw_ X)) X 5 [(4, .int (nI v)), (3, .int (nI c)), (0, .ref (adr X 3)), (1, .ref (adr X 4)), (2, .int (nI o))] (dg_ σ 1 o G) 17 []) (fun v G => dn_ 1 o (σ 22) (σ 25) c v G) 2 ?_ ?_ 0 G (Nat.zero_le _) hG
      · exact lp2
      · intro G hG
        refine qv_iload F d_T_drawHolds_17 0 rfl ?_
        refine qv_iconst F (nI 2) d_T_drawHolds_19 ic_2 ?_
        refine qv_icmpge F d_T_drawHolds_20 rfl (by decide) (by decide) (fun hb => ?_) (fun hb => ?_)
        ·
          refine qv_sub (L' := [(3, _), (0, _), (1, _), (2, _)]) [1, 2, 3, 4] rfl ?_
          refine qv_iinc (L' := [(3, _), (0, _), (1, _), (2, _)]) F _ d_T_drawHolds_43 0 rfl (ii_1 _) (by decide) rfl ?_
          refine qv_goto F d_T_drawHolds_46 rfl ?_
          exact ih G (dn_next hG)
        ·
          exact absurd hb (by decide)
      · intro v G hv hG ih2
        refine qv_iload F d_T_drawHolds_17 0 rfl ?_
        refine qv_iconst F (nI 2) d_T_drawHolds_19 ic_2 ?_
        refine qv_icmpge F d_T_drawHolds_20 rfl (by omega) (by omega) (fun hb => ?_) (fun hb => ?_)
        ·
          omega
        ·
          refine qv_aload_n F d_T_drawHolds_23 3 rfl ?_
          refine qv_iload_n F d_T_drawHolds_24 1 rfl ?_
          refine qv_iload F d_T_drawHolds_25 0 rfl ?_
          refine qv_aload_n F d_T_drawHolds_27 2 rfl ?_
          refine qv_iload_n F d_T_drawHolds_28 1 rfl ?_
          refine qv_iload F d_T_drawHolds_29 0 rfl ?_
          refine i_T_136i F (c_T_heldIn l X (dg_ σ 1 o G) c v (by omega)) (by decide) (Nat.le_of_ble_eq_true rfl) d_T_drawHolds_31 ?_
          refine i_T_145v F (c_D_drawRows l X (dg_ σ 1 o G) 1 o c v (σ 22 (c * 2 + v)) (by decide) ho rfl hc hv (h22 _)) (by decide) (Nat.le_of_ble_eq_true rfl) d_T_drawHolds_34 ?_
          rw [dg_G]
          refine qv_iinc (L' := [(4, _), (3, _), (0, _), (1, _), (2, _)]) F _ d_T_drawHolds_37 0 rfl (ii_1 _) (by decide) rfl ?_
          refine qv_goto F d_T_drawHolds_40 rfl ?_
          exact ih2 _ (dn_row (by decide) ho hc hv hG)

