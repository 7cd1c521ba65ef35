/-! the reference: relations -/
set_option maxRecDepth 100000 in
set_option maxHeartbeats 4000000 in
theorem c_M_bits (l : Launch) (X : wX) (σ : sg) (x : Nat) (hx : x < 256) : mt_ l X y_M_bits w_M_bits 0 [.int (nI x)] σ (ei_ (nI (pc_ x)) σ) := by
  refine mt_of (own := R_M) rfl pl_M (Nat.le_of_ble_eq_true rfl) ?_
  intro zp ze zs zm za zb zt zc F hr hlk
  refine qv_sub (L' := [(0, _)]) [0] rfl ?_
  refine qv_iconst F (nI 0) d_M_bits_0 ic_0 ?_
  refine qv_istore_n (L' := [(1, _), (0, _)]) F d_M_bits_1 (by decide) rfl ?_
  refine qv_iconst F (nI 0) d_M_bits_2 ic_0 ?_
  refine qv_istore_n (L' := [(2, _), (1, _), (0, _)]) F d_M_bits_3 (by decide) rfl ?_
  have lp := lu_up (fun h (_ : Unit) => vv_ zp l ze (rr_ 0) zs zm za zb zt zc (MQ zb (mq_ X (ei_ (nI (pc_ x)) σ)) za zs 0 0 (aw_ X)) X 3 [(2, .int (nI h)), (1, .int (nI (sm_ (fun h => (x.testBit h).toNat) h))), (0, .int (nI x))] σ 4 []) (fun _ _ => True) 8 ?_ ?_ 0 () (Nat.zero_le _) trivial
  · exact lp
  · intro _ _
    refine qv_iload_n F d_M_bits_4 0 rfl ?_
    refine qv_bipush F (nI 8) d_M_bits_5 bic_8 ?_
    refine qv_icmpge F d_M_bits_7 rfl (by decide) (by decide) (fun hb => ?_) (fun hb => ?_)
    ·
      refine qv_iload_n F d_M_bits_24 1 rfl ?_
      exact qv_iret F hr hlk d_M_bits_25 (ei_of rfl rfl)
    ·
      exact absurd hb (by decide)
  · intro h _ hh _ ih
    have ih := ih () trivial
    refine qv_iload_n F d_M_bits_4 0 rfl ?_
    refine qv_bipush F (nI 8) d_M_bits_5 bic_8 ?_
    refine qv_icmpge F d_M_bits_7 rfl (by omega) (by omega) (fun hb => ?_) (fun hb => ?_)
    ·
      omega
    ·
      refine qv_iload_n F d_M_bits_10 1 rfl ?_
      refine qv_iload_n F d_M_bits_11 2 rfl ?_
      refine qv_iload_n F d_M_bits_12 0 rfl ?_
      refine qv_ishr F d_M_bits_13 (by omega) (by omega) ?_
      refine qv_iconst F (nI 1) d_M_bits_14 ic_1 ?_
      refine qv_iand F d_M_bits_15 ?_
      rw [bt_and]
      refine qv_iadd F d_M_bits_16 ?_
      refine qv_istore_n (L' := [(1, _), (2, _), (0, _)]) F d_M_bits_17 (by decide) rfl ?_
      refine qv_sub (L' := [(2, _), (1, _), (0, _)]) [1, 0, 2] rfl ?_
      refine qv_iinc (L' := [(2, _), (1, _), (0, _)]) F _ d_M_bits_18 0 rfl (ii_1 _) (by decide) rfl ?_
      refine qv_goto F d_M_bits_21 rfl ?_
      exact ih
set_option maxRecDepth 100000 in
set_option maxHeartbeats 4000000 in
theorem c_M_more (l : Launch) (X : wX) (σ : sg) (c v x : Nat) (hc : c < 8) (hv : v < 16) (h46 : ∀ k, σ 46 k < 256) (h5 : ∀ k, σ 29 k < 4) (h6 : ∀ k, σ 30 k < 16) : mt_ l X y_M_more w_M_more 1 [.ref (adr X 28), .int (nI c), .int (nI v), .int (nI x)] σ (ei_ (nI (ad_ (ft_ (mo_ σ)) c v x (mg_ σ 0)).2.2) (mr_ σ (ad_ (ft_ (mo_ σ)) c v x (mg_ σ 0)))) := by
  refine mt_of (own := R_M) rfl pl_M (Nat.le_of_ble_eq_true rfl) ?_
  intro zp ze zs zm za zb zt zc F hr hlk
  refine qv_sub (L' := [(0, _), (1, _), (2, _), (3, _)]) [0, 1, 2, 3] rfl ?_
  have ec : 16 * c + v = c * 16 + v := by omega
  have b1 := h46 (c * 16 + v)
  have b2 := or_256 b1 (and_256 (a := x) (ft_lt (mo_ σ) v))
  refine qv_aload_n F d_M_more_0 0 rfl ?_
  refine g_M_62 F d_M_more_1 ?_
  refine qv_bipush F (nI 16) d_M_more_4 bic_16 ?_
  refine qv_iload_n F d_M_more_6 1 rfl ?_
  refine qv_imul F d_M_more_7 ?_
  refine qv_iload_n F d_M_more_8 2 rfl ?_
  refine qv_iadd F d_M_more_9 ?_
  refine ld_46 F (by omega) d_M_more_10 ?_
  refine qv_istore (L' := [(4, _), (0, _), (1, _), (2, _), (3, _)]) F d_M_more_11 (by decide) rfl ?_
  refine qv_aload_n F d_M_more_13 1 rfl ?_
  refine g_M_62 F d_M_more_14 ?_
  refine qv_bipush F (nI 16) d_M_more_17 bic_16 ?_
  refine qv_iload_n F d_M_more_19 2 rfl ?_
  refine qv_imul F d_M_more_20 ?_
  refine qv_iload_n F d_M_more_21 3 rfl ?_
  refine qv_iadd F d_M_more_22 ?_
  refine qv_iload F d_M_more_23 0 rfl ?_
  refine qv_iload_n F d_M_more_25 4 rfl ?_
  refine qv_aload_n F d_M_more_26 1 rfl ?_
  refine qv_iload_n F d_M_more_27 3 rfl ?_
  refine i_M_100i F (c_M_fitting l X σ v hv h5 h6) (by decide) (Nat.le_of_ble_eq_true rfl) d_M_more_28 ?_
  refine qv_iand F d_M_more_31 ?_
  refine qv_ior F d_M_more_32 ?_
  refine sv_46 F (by omega) d_M_more_33 ?_
  refine qv_aload_n F d_M_more_34 1 rfl ?_
  refine g_M_62 F d_M_more_35 ?_
  refine qv_bipush F (nI 16) d_M_more_38 bic_16 ?_
  refine qv_iload_n F d_M_more_40 2 rfl ?_
  refine qv_imul F d_M_more_41 ?_
  refine qv_iload_n F d_M_more_42 3 rfl ?_
  refine qv_iadd F d_M_more_43 ?_
  refine ld_46 F (by omega) d_M_more_44 ?_
  refine qv_iload F d_M_more_45 0 rfl ?_
  rw [us_eq, up_eq, ec]
  refine qv_icmpeq F d_M_more_47 rfl (by omega) (by omega) (fun hb => ?_) (fun hb => ?_)
  ·
    refine qv_iconst F (nI 0) d_M_more_54 ic_0 ?_
    exact qv_zret F hr hlk (by first | exact Or.inl rfl | exact Or.inr rfl | exact bz_01 _) d_M_more_55 (ei_of (by show nI 0 = nI (if σ 46 (c * 16 + v) ||| (x &&& ft_ (mo_ σ) v) = σ 46 (c * 16 + v) then 0 else 1); rw [if_pos hb]) (mr_46 σ _ _ _ _ rfl))
  ·
    refine qv_iconst F (nI 1) d_M_more_50 ic_1 ?_
    refine qv_goto F d_M_more_51 rfl ?_
    exact qv_zret F hr hlk (by first | exact Or.inl rfl | exact Or.inr rfl | exact bz_01 _) d_M_more_55 (ei_of (by show nI 1 = nI (if σ 46 (c * 16 + v) ||| (x &&& ft_ (mo_ σ) v) = σ 46 (c * 16 + v) then 0 else 1); rw [if_neg hb]) (mr_46 σ _ _ _ _ rfl))
set_option maxRecDepth 100000 in
set_option maxHeartbeats 4000000 in
theorem c_M_held (l : Launch) (X : wX) (σ : sg) (set f : Nat) (hset : set < 256) (hf : f < 2) : mt_ l X y_M_held w_M_held 0 [.ref (adr X 28), .int (nI set), .int (nI f)] σ (ei_ (nI (ha_ (σ 47) set f 8)) σ) := by
  refine mt_of (own := R_M) rfl pl_M (Nat.le_of_ble_eq_true rfl) ?_
  intro zp ze zs zm za zb zt zc F hr hlk
  refine qv_sub (L' := [(0, _), (1, _), (2, _)]) [0, 1, 2] rfl ?_
  refine qv_iconst F (nI 0) d_M_held_0 ic_0 ?_
  refine qv_istore_n (L' := [(3, _), (0, _), (1, _), (2, _)]) F d_M_held_1 (by decide) rfl ?_
  refine qv_iconst F (nI 0) d_M_held_2 ic_0 ?_
  refine qv_istore (L' := [(4, _), (3, _), (0, _), (1, _), (2, _)]) F d_M_held_3 (by decide) rfl ?_
  have lp := lu_up (fun h (_ : Unit) => vv_ zp l ze (rr_ 0) zs zm za zb zt zc (MQ zb (mq_ X (ei_ (nI (ha_ (σ 47) set f 8)) σ)) za zs 0 0 (aw_ X)) X 5 [(4, .int (nI h)), (3, .int (nI (ha_ (σ 47) set f h))), (0, .ref (adr X 28)), (1, .int (nI set)), (2, .int (nI f))] σ 5 []) (fun _ _ => True) 8 ?_ ?_ 0 () (Nat.zero_le _) trivial
  · exact lp
  · intro _ _
    refine qv_iload F d_M_held_5 0 rfl ?_
    refine qv_bipush F (nI 8) d_M_held_7 bic_8 ?_
    refine qv_icmpge F d_M_held_9 rfl (by decide) (by decide) (fun hb => ?_) (fun hb => ?_)
    ·
      refine qv_iload_n F d_M_held_46 1 rfl ?_
      exact qv_iret F hr hlk d_M_held_47 (ei_of rfl rfl)
    ·
      exact absurd hb (by decide)
  · intro h _ hh _ ih
    have ih := ih () trivial
    rw [ha_st (σ 47) set f h] at ih
    have e1 : 2 * h + f = h * 2 + f := by omega
    have hbn := bn_le (set.testBit h)
    refine qv_iload F d_M_held_5 0 rfl ?_
    refine qv_bipush F (nI 8) d_M_held_7 bic_8 ?_
    refine qv_icmpge F d_M_held_9 rfl (by omega) (by omega) (fun hb => ?_) (fun hb => ?_)
    ·
      omega
    ·
      refine qv_iload_n F d_M_held_12 1 rfl ?_
      refine qv_iload_n F d_M_held_13 3 rfl ?_
      refine qv_iload F d_M_held_14 0 rfl ?_
      refine qv_ishr F d_M_held_16 (by omega) (by omega) ?_
      refine qv_iconst F (nI 1) d_M_held_17 ic_1 ?_
      refine qv_iand F d_M_held_18 ?_
      rw [bt_and]
      refine qv_iconst F (nI 1) d_M_held_19 ic_1 ?_
      refine qv_icmpne F d_M_held_20 rfl (by omega) (by omega) (fun hb => ?_) (fun hb => ?_)
      ·
        have hz : set.testBit h = false := by
          cases q : set.testBit h with
          | false => rfl
          | true => rw [q] at hb; exact absurd rfl hb
        rw [hz, if_neg (by decide)] at ih
        refine qv_iconst F (nI 0) d_M_held_37 ic_0 ?_
        refine qv_ior F d_M_held_38 ?_
        refine qv_istore_n (L' := [(3, _), (4, _), (0, _), (1, _), (2, _)]) F d_M_held_39 (by decide) rfl ?_
        refine qv_sub (L' := [(4, _), (3, _), (0, _), (1, _), (2, _)]) [1, 0, 2, 3, 4] rfl ?_
        refine qv_iinc (L' := [(4, _), (3, _), (0, _), (1, _), (2, _)]) F _ d_M_held_40 0 rfl (ii_1 _) (by decide) rfl ?_
        refine qv_goto F d_M_held_43 rfl ?_
        exact ih
      ·
        have hz : set.testBit h = true := by
          cases q : set.testBit h with
          | true => rfl
          | false => rw [q] at hb; exact absurd hb (by decide)
        rw [hz, if_pos rfl] at ih
        refine qv_aload_n F d_M_held_23 2 rfl ?_
        refine g_M_65 F d_M_held_24 ?_
        refine qv_iconst F (nI 2) d_M_held_27 ic_2 ?_
        refine qv_iload F d_M_held_28 0 rfl ?_
        refine qv_imul F d_M_held_30 ?_
        refine qv_iload_n F d_M_held_31 4 rfl ?_
        refine qv_iadd F d_M_held_32 ?_
        refine ld_47 F (by omega) d_M_held_33 ?_
        refine qv_goto F d_M_held_34 rfl ?_
        rw [e1]
        refine qv_ior F d_M_held_38 ?_
        refine qv_istore_n (L' := [(3, _), (4, _), (0, _), (1, _), (2, _)]) F d_M_held_39 (by decide) rfl ?_
        refine qv_sub (L' := [(4, _), (3, _), (0, _), (1, _), (2, _)]) [1, 0, 2, 3, 4] rfl ?_
        refine qv_iinc (L' := [(4, _), (3, _), (0, _), (1, _), (2, _)]) F _ d_M_held_40 0 rfl (ii_1 _) (by decide) rfl ?_
        refine qv_goto F d_M_held_43 rfl ?_
        exact ih
set_option maxRecDepth 100000 in
set_option maxHeartbeats 4000000 in
theorem c_M_holdMore (l : Launch) (X : wX) (σ : sg) (set f x : Nat) (hset : set < 256) (hf : f < 2) (hx : x < 256) (h47 : ∀ k, σ 47 k < 256) (h46 : ∀ k, σ 46 k < 256) : mt_ l X y_M_holdMore w_M_holdMore 0 [.ref (adr X 28), .int (nI set), .int (nI f), .int (nI x)] σ (ei_ (nI (hs_ set f x 8 (mg_ σ 0)).2.2) (mr_ σ (hs_ set f x 8 (mg_ σ 0)))) := by
  refine mt_of (own := R_M) rfl pl_M (Nat.le_of_ble_eq_true rfl) ?_
  intro zp ze zs zm za zb zt zc F hr hlk
  refine qv_sub (L' := [(0, _), (1, _), (2, _), (3, _)]) [0, 1, 2, 3] rfl ?_
  have hB0 : B_ (mg_ σ 0) := ⟨h46, h47⟩
  refine qv_iconst F (nI 0) d_M_holdMore_0 ic_0 ?_
  refine qv_istore (L' := [(4, _), (0, _), (1, _), (2, _), (3, _)]) F d_M_holdMore_1 (by decide) rfl ?_
  refine qv_iconst F (nI 0) d_M_holdMore_3 ic_0 ?_
  refine qv_istore (L' := [(5, _), (4, _), (0, _), (1, _), (2, _), (3, _)]) F d_M_holdMore_4 (by decide) rfl ?_
  have lp := lu_up (fun h (_ : Unit) => vv_ zp l ze (rr_ 0) zs zm za zb zt zc (MQ zb (mq_ X (ei_ (nI (hs_ set f x 8 (mg_ σ 0)).2.2) (mr_ σ (hs_ set f x 8 (mg_ σ 0))))) za zs 0 0 (aw_ X)) X 7 [(5, .int (nI h)), (4, .int (nI (hs_ set f x h (mg_ σ 0)).2.2)), (0, .ref (adr X 28)), (1, .int (nI set)), (2, .int (nI f)), (3, .int (nI x))] (mr_ σ (hs_ set f x h (mg_ σ 0))) 6 []) (fun _ _ => True) 8 ?_ ?_ 0 () (Nat.zero_le _) trivial
  · exact qv_st (mr_mg σ 0).symm lp
  · intro _ _
    have hfl : fl_ (hs_ set f x 8 (mg_ σ 0)) := hs_fl (Or.inl rfl)
    refine qv_iload F d_M_holdMore_6 0 rfl ?_
    refine qv_bipush F (nI 8) d_M_holdMore_8 bic_8 ?_
    refine qv_icmpge F d_M_holdMore_10 rfl (by decide) (by decide) (fun hb => ?_) (fun hb => ?_)
    ·
      refine qv_iload F d_M_holdMore_99 1 rfl ?_
      exact qv_zret F hr hlk (by rcases hfl with h | h <;> rw [h] <;> first | exact Or.inl rfl | exact Or.inr rfl) d_M_holdMore_101 (ei_of rfl rfl)
    ·
      exact absurd hb (by decide)
  · intro h _ hh _ ih
    have ih := ih () trivial
    have e0 : hs_ set f x (h + 1) (mg_ σ 0) = if set.testBit h = true then h1_ f x h (hs_ set f x h (mg_ σ 0)) else hs_ set f x h (mg_ σ 0) := rfl
    rw [e0] at ih
    have hfl : fl_ (hs_ set f x h (mg_ σ 0)) := hs_fl (Or.inl rfl)
    have hB := hs_B (set := set) (f := f) hx h _ hB0
    generalize hs_ set f x h (mg_ σ 0) = r at ih hfl hB ⊢
    obtain ⟨p, q, g⟩ := r
    have hfl : g = 0 ∨ g = 1 := hfl
    have e1 : 2 * h + f = h * 2 + f := by omega
    have hbn := bn_le (set.testBit h)
    have bq := hB.2 (h * 2 + f)
    have bq : q (h * 2 + f) < 256 := bq
    have bo := or_256 bq hx
    refine qv_iload F d_M_holdMore_6 0 rfl ?_
    refine qv_bipush F (nI 8) d_M_holdMore_8 bic_8 ?_
    refine qv_icmpge F d_M_holdMore_10 rfl (by omega) (by omega) (fun hb => ?_) (fun hb => ?_)
    ·
      omega
    ·
      refine qv_iload_n F d_M_holdMore_13 3 rfl ?_
      refine qv_iload F d_M_holdMore_14 0 rfl ?_
      refine qv_ishr F d_M_holdMore_16 (by omega) (by omega) ?_
      refine qv_iconst F (nI 1) d_M_holdMore_17 ic_1 ?_
      refine qv_iand F d_M_holdMore_18 ?_
      rw [bt_and]
      refine qv_iconst F (nI 1) d_M_holdMore_19 ic_1 ?_
      refine qv_icmpne F d_M_holdMore_20 rfl (by omega) (by omega) (fun hb => ?_) (fun hb => ?_)
      ·
        have hz : set.testBit h = false := by
          cases z : set.testBit h with
          | false => rfl
          | true => rw [z] at hb; exact absurd rfl hb
        rw [hz, if_neg (by decide)] at ih
        have e2 : us (mr_ σ (p, q, g)) 47 (2 * h + f) (q (2 * h + f)) = mr_ σ (p, q, g) := by
          rw [mr_47 σ (p, q, g) _ _ g]
          show mr_ σ (p, va_up q (2 * h + f) (q (2 * h + f)), g) = _
          rw [up_id]
        refine qv_aload_n F d_M_holdMore_39 2 rfl ?_
        refine g_M_65 F d_M_holdMore_40 ?_
        refine qv_iconst F (nI 2) d_M_holdMore_43 ic_2 ?_
        refine qv_iload F d_M_holdMore_44 0 rfl ?_
        refine qv_imul F d_M_holdMore_46 ?_
        refine qv_iload_n F d_M_holdMore_47 4 rfl ?_
        refine qv_iadd F d_M_holdMore_48 ?_
        refine ld_47 F (by omega) d_M_holdMore_49 ?_
        refine qv_istore (L' := [(6, _), (5, _), (4, _), (0, _), (1, _), (2, _), (3, _)]) F d_M_holdMore_50 (by decide) rfl ?_
        refine qv_iload F d_M_holdMore_52 2 rfl ?_
        refine qv_ifne F d_M_holdMore_54 rfl (show g < 2 ^ 31 by omega) (fun hb => ?_) (fun hb => ?_)
        ·
          have hb : g ≠ 0 := hb
          obtain rfl : g = 1 := by omega
          refine qv_iconst F (nI 1) d_M_holdMore_73 ic_1 ?_
          refine qv_goto F d_M_holdMore_74 rfl ?_
          refine qv_istore (L' := [(4, _), (6, _), (5, _), (0, _), (1, _), (2, _), (3, _)]) F d_M_holdMore_78 (by decide) rfl ?_
          refine qv_aload_n F d_M_holdMore_80 3 rfl ?_
          refine g_M_65 F d_M_holdMore_81 ?_
          refine qv_iconst F (nI 2) d_M_holdMore_84 ic_2 ?_
          refine qv_iload F d_M_holdMore_85 2 rfl ?_
          refine qv_imul F d_M_holdMore_87 ?_
          refine qv_iload_n F d_M_holdMore_88 5 rfl ?_
          refine qv_iadd F d_M_holdMore_89 ?_
          refine qv_iload F d_M_holdMore_90 1 rfl ?_
          refine sv_47 F (by omega) d_M_holdMore_92 ?_
          refine qv_st e2 ?_
          refine qv_sub (L' := [(5, _), (4, _), (0, _), (1, _), (2, _), (3, _)]) [2, 0, 3, 4, 5, 6] rfl ?_
          refine qv_iinc (L' := [(5, _), (4, _), (0, _), (1, _), (2, _), (3, _)]) F _ d_M_holdMore_93 0 rfl (ii_1 _) (by decide) rfl ?_
          refine qv_goto F d_M_holdMore_96 rfl ?_
          exact ih
        ·
          have hb : g = 0 := hb
          subst hb
          refine qv_iload F d_M_holdMore_57 0 rfl ?_
          refine qv_aload_n F d_M_holdMore_59 3 rfl ?_
          refine g_M_65 F d_M_holdMore_60 ?_
          refine qv_iconst F (nI 2) d_M_holdMore_63 ic_2 ?_
          refine qv_iload F d_M_holdMore_64 1 rfl ?_
          refine qv_imul F d_M_holdMore_66 ?_
          refine qv_iload_n F d_M_holdMore_67 5 rfl ?_
          refine qv_iadd F d_M_holdMore_68 ?_
          refine ld_47 F (by omega) d_M_holdMore_69 ?_
          refine qv_icmpeq F d_M_holdMore_70 rfl (show q (2 * h + f) < 2 ^ 31 by rw [e1]; omega) (show q (2 * h + f) < 2 ^ 31 by rw [e1]; omega) (fun hb => ?_) (fun hb => ?_)
          ·
            refine qv_iconst F (nI 0) d_M_holdMore_77 ic_0 ?_
            refine qv_istore (L' := [(4, _), (6, _), (5, _), (0, _), (1, _), (2, _), (3, _)]) F d_M_holdMore_78 (by decide) rfl ?_
            refine qv_aload_n F d_M_holdMore_80 3 rfl ?_
            refine g_M_65 F d_M_holdMore_81 ?_
            refine qv_iconst F (nI 2) d_M_holdMore_84 ic_2 ?_
            refine qv_iload F d_M_holdMore_85 2 rfl ?_
            refine qv_imul F d_M_holdMore_87 ?_
            refine qv_iload_n F d_M_holdMore_88 5 rfl ?_
            refine qv_iadd F d_M_holdMore_89 ?_
            refine qv_iload F d_M_holdMore_90 1 rfl ?_
            refine sv_47 F (by omega) d_M_holdMore_92 ?_
            refine qv_st e2 ?_
            refine qv_sub (L' := [(5, _), (4, _), (0, _), (1, _), (2, _), (3, _)]) [2, 0, 3, 4, 5, 6] rfl ?_
            refine qv_iinc (L' := [(5, _), (4, _), (0, _), (1, _), (2, _), (3, _)]) F _ d_M_holdMore_93 0 rfl (ii_1 _) (by decide) rfl ?_
            refine qv_goto F d_M_holdMore_96 rfl ?_
            exact ih
          ·
            exact absurd rfl hb
      ·
        have hz : set.testBit h = true := by
          cases z : set.testBit h with
          | true => rfl
          | false => rw [z] at hb; exact absurd hb (by decide)
        rw [hz, if_pos rfl] at ih
        have e2 : ∀ y, us (mr_ σ (p, q, g)) 47 (2 * h + f) (q (2 * h + f) ||| x) = mr_ σ (p, va_up q (h * 2 + f) (q (h * 2 + f) ||| x), y) := fun y => by
          rw [mr_47 σ (p, q, g) _ _ y, e1]
        have e3 : h1_ f x h (p, q, g) = (p, va_up q (h * 2 + f) (q (h * 2 + f) ||| x), if q (h * 2 + f) ||| x = q (h * 2 + f) then g else 1) := rfl
        rw [e3] at ih
        refine qv_aload_n F d_M_holdMore_23 2 rfl ?_
        refine g_M_65 F d_M_holdMore_24 ?_
        refine qv_iconst F (nI 2) d_M_holdMore_27 ic_2 ?_
        refine qv_iload F d_M_holdMore_28 0 rfl ?_
        refine qv_imul F d_M_holdMore_30 ?_
        refine qv_iload_n F d_M_holdMore_31 4 rfl ?_
        refine qv_iadd F d_M_holdMore_32 ?_
        refine ld_47 F (by omega) d_M_holdMore_33 ?_
        refine qv_iload_n F d_M_holdMore_34 5 rfl ?_
        refine qv_ior F d_M_holdMore_35 ?_
        refine qv_goto F d_M_holdMore_36 rfl ?_
        refine qv_istore (L' := [(6, _), (5, _), (4, _), (0, _), (1, _), (2, _), (3, _)]) F d_M_holdMore_50 (by decide) rfl ?_
        refine qv_iload F d_M_holdMore_52 2 rfl ?_
        refine qv_ifne F d_M_holdMore_54 rfl (show g < 2 ^ 31 by omega) (fun hb => ?_) (fun hb => ?_)
        ·
          have hb : g ≠ 0 := hb
          obtain rfl : g = 1 := by omega
          have e4 : (if q (h * 2 + f) ||| x = q (h * 2 + f) then 1 else 1) = 1 := by by_cases z : q (h * 2 + f) ||| x = q (h * 2 + f); rw [if_pos z]; rw [if_neg z]
          rw [e4] at ih
          refine qv_iconst F (nI 1) d_M_holdMore_73 ic_1 ?_
          refine qv_goto F d_M_holdMore_74 rfl ?_
          refine qv_istore (L' := [(4, _), (6, _), (5, _), (0, _), (1, _), (2, _), (3, _)]) F d_M_holdMore_78 (by decide) rfl ?_
          refine qv_aload_n F d_M_holdMore_80 3 rfl ?_
          refine g_M_65 F d_M_holdMore_81 ?_
          refine qv_iconst F (nI 2) d_M_holdMore_84 ic_2 ?_
          refine qv_iload F d_M_holdMore_85 2 rfl ?_
          refine qv_imul F d_M_holdMore_87 ?_
          refine qv_iload_n F d_M_holdMore_88 5 rfl ?_
          refine qv_iadd F d_M_holdMore_89 ?_
          refine qv_iload F d_M_holdMore_90 1 rfl ?_
          refine sv_47 F (by omega) d_M_holdMore_92 ?_
          refine qv_st (e2 1) ?_
          refine qv_sub (L' := [(5, _), (4, _), (0, _), (1, _), (2, _), (3, _)]) [2, 0, 3, 4, 5, 6] rfl ?_
          refine qv_iinc (L' := [(5, _), (4, _), (0, _), (1, _), (2, _), (3, _)]) F _ d_M_holdMore_93 0 rfl (ii_1 _) (by decide) rfl ?_
          refine qv_goto F d_M_holdMore_96 rfl ?_
          exact ih
        ·
          have hb : g = 0 := hb
          subst hb
          refine qv_iload F d_M_holdMore_57 0 rfl ?_
          refine qv_aload_n F d_M_holdMore_59 3 rfl ?_
          refine g_M_65 F d_M_holdMore_60 ?_
          refine qv_iconst F (nI 2) d_M_holdMore_63 ic_2 ?_
          refine qv_iload F d_M_holdMore_64 1 rfl ?_
          refine qv_imul F d_M_holdMore_66 ?_
          refine qv_iload_n F d_M_holdMore_67 5 rfl ?_
          refine qv_iadd F d_M_holdMore_68 ?_
          refine ld_47 F (by omega) d_M_holdMore_69 ?_
          refine qv_icmpeq F d_M_holdMore_70 rfl (show q (2 * h + f) ||| x < 2 ^ 31 by rw [e1]; omega) (show q (2 * h + f) < 2 ^ 31 by rw [e1]; omega) (fun hb => ?_) (fun hb => ?_)
          ·
            have hb : q (2 * h + f) ||| x = q (2 * h + f) := hb
            rw [e1] at hb
            rw [if_pos hb] at ih
            refine qv_iconst F (nI 0) d_M_holdMore_77 ic_0 ?_
            refine qv_istore (L' := [(4, _), (6, _), (5, _), (0, _), (1, _), (2, _), (3, _)]) F d_M_holdMore_78 (by decide) rfl ?_
            refine qv_aload_n F d_M_holdMore_80 3 rfl ?_
            refine g_M_65 F d_M_holdMore_81 ?_
            refine qv_iconst F (nI 2) d_M_holdMore_84 ic_2 ?_
            refine qv_iload F d_M_holdMore_85 2 rfl ?_
            refine qv_imul F d_M_holdMore_87 ?_
            refine qv_iload_n F d_M_holdMore_88 5 rfl ?_
            refine qv_iadd F d_M_holdMore_89 ?_
            refine qv_iload F d_M_holdMore_90 1 rfl ?_
            refine sv_47 F (by omega) d_M_holdMore_92 ?_
            refine qv_st (e2 0) ?_
            refine qv_sub (L' := [(5, _), (4, _), (0, _), (1, _), (2, _), (3, _)]) [2, 0, 3, 4, 5, 6] rfl ?_
            refine qv_iinc (L' := [(5, _), (4, _), (0, _), (1, _), (2, _), (3, _)]) F _ d_M_holdMore_93 0 rfl (ii_1 _) (by decide) rfl ?_
            refine qv_goto F d_M_holdMore_96 rfl ?_
            exact ih
          ·
            have hb : ¬ q (2 * h + f) ||| x = q (2 * h + f) := hb
            rw [e1] at hb
            rw [if_neg hb] at ih
            refine qv_iconst F (nI 1) d_M_holdMore_73 ic_1 ?_
            refine qv_goto F d_M_holdMore_74 rfl ?_
            refine qv_istore (L' := [(4, _), (6, _), (5, _), (0, _), (1, _), (2, _), (3, _)]) F d_M_holdMore_78 (by decide) rfl ?_
            refine qv_aload_n F d_M_holdMore_80 3 rfl ?_
            refine g_M_65 F d_M_holdMore_81 ?_
            refine qv_iconst F (nI 2) d_M_holdMore_84 ic_2 ?_
            refine qv_iload F d_M_holdMore_85 2 rfl ?_
            refine qv_imul F d_M_holdMore_87 ?_
            refine qv_iload_n F d_M_holdMore_88 5 rfl ?_
            refine qv_iadd F d_M_holdMore_89 ?_
            refine qv_iload F d_M_holdMore_90 1 rfl ?_
            refine sv_47 F (by omega) d_M_holdMore_92 ?_
            refine qv_st (e2 1) ?_
            refine qv_sub (L' := [(5, _), (4, _), (0, _), (1, _), (2, _), (3, _)]) [2, 0, 3, 4, 5, 6] rfl ?_
            refine qv_iinc (L' := [(5, _), (4, _), (0, _), (1, _), (2, _), (3, _)]) F _ d_M_holdMore_93 0 rfl (ii_1 _) (by decide) rfl ?_
            refine qv_goto F d_M_holdMore_96 rfl ?_
            exact ih
set_option maxRecDepth 100000 in
set_option maxHeartbeats 4000000 in
theorem c_M_follow (l : Launch) (X : wX) (σ : sg) (k c : Nat) (hk : k < 40) (hc : c < 8) (ht : tw_ (mo_ σ)) (h1 : B_ (mg_ σ 0)) : mt_ l X y_M_follow w_M_follow 2 [.ref (adr X 28), .int (nI k), .int (nI c)] σ (ei_ (nI (sx_ (mo_ σ) (ft_ (mo_ σ)) k c (mg_ σ 0)).2.2) (mr_ σ (sx_ (mo_ σ) (ft_ (mo_ σ)) k c (mg_ σ 0)))) := by
  refine mt_of (own := R_M) rfl pl_M (Nat.le_of_ble_eq_true rfl) ?_
  intro zp ze zs zm za zb zt zc F hr hlk
  refine qv_sub (L' := [(0, _), (1, _), (2, _)]) [0, 1, 2] rfl ?_
  have h5 : ∀ k, σ 29 k < 4 := ht.1
  have h6 : ∀ k, σ 30 k < 16 := ht.2.1
  have t7 : σ 31 k < 4 := ht.2.2.1 k
  have t8 : σ 32 k < 16 := ht.2.2.2.1 k
  have t9 : σ 33 k < 16 := ht.2.2.2.2.1 k
  have t10 : σ 34 k < 2 := ht.2.2.2.2.2.1 k
  have hfl : fl_ (sx_ (mo_ σ) (ft_ (mo_ σ)) k c (mg_ σ 0)) := sx_fl (Or.inl rfl)
  have h01 : nI (sx_ (mo_ σ) (ft_ (mo_ σ)) k c (mg_ σ 0)).2.2 = 0 ∨ nI (sx_ (mo_ σ) (ft_ (mo_ σ)) k c (mg_ σ 0)).2.2 = 1 := by rcases hfl with h | h <;> rw [h] <;> first | exact Or.inl rfl | exact Or.inr rfl
  have ec : 16 * c = c * 16 := by omega
  refine qv_aload_n F d_M_follow_0 0 rfl ?_
  refine g_M_19 F d_M_follow_1 ?_
  refine qv_iload_n F d_M_follow_4 1 rfl ?_
  refine ld_32 F (by omega) d_M_follow_5 ?_
  refine qv_istore_n (L' := [(3, _), (0, _), (1, _), (2, _)]) F d_M_follow_6 (by decide) rfl ?_
  refine qv_bipush F (nI 16) d_M_follow_7 bic_16 ?_
  refine qv_iload_n F d_M_follow_9 3 rfl ?_
  refine qv_imul F d_M_follow_10 ?_
  refine qv_istore (L' := [(4, _), (3, _), (0, _), (1, _), (2, _)]) F d_M_follow_11 (by decide) rfl ?_
  refine qv_aload_n F d_M_follow_13 2 rfl ?_
  refine g_M_16 F d_M_follow_14 ?_
  refine qv_iload_n F d_M_follow_17 3 rfl ?_
  refine ld_31 F (by omega) d_M_follow_18 ?_
  rcases (by omega : σ 31 k = 0 ∨ σ 31 k = 1 ∨ σ 31 k = 2 ∨ σ 31 k = 3) with q | q | q | q
  · have q2 : sx_ (mo_ σ) (ft_ (mo_ σ)) k c (mg_ σ 0) = ad_ (ft_ (mo_ σ)) c (σ 32 k) (1 * 2 ^ σ 33 k) (mg_ σ 0) := by unfold sx_; rw [if_pos (show mo_ σ 7 k = 0 from q)]; rfl
    have hp : 1 * 2 ^ σ 33 k < 2 ^ 32 := by rw [Nat.one_mul]; exact Nat.pow_lt_pow_right (by decide) (by omega)
    rw [q2] at h01 ⊢
    rw [q]
    refine qv_tsw F d_M_follow_19 (by decide) (by decide) (by decide) (off := 25) (tgt := 44) rfl rfl ?_
    refine qv_aload_n F d_M_follow_44 2 rfl ?_
    refine qv_iload_n F d_M_follow_45 4 rfl ?_
    refine qv_iload_n F d_M_follow_46 1 rfl ?_
    refine qv_iconst F (nI 1) d_M_follow_47 ic_1 ?_
    refine qv_aload_n F d_M_follow_48 2 rfl ?_
    refine g_M_22 F d_M_follow_49 ?_
    refine qv_iload_n F d_M_follow_52 3 rfl ?_
    refine ld_33 F (by omega) d_M_follow_53 ?_
    refine qv_ishl F d_M_follow_54 (by omega) hp ?_
    refine i_M_104i F (c_M_more l X σ c (σ 32 k) (1 * 2 ^ σ 33 k) hc t8 h1.1 h5 h6) (by decide) (Nat.le_of_ble_eq_true rfl) d_M_follow_55 ?_
    exact qv_zret F hr hlk h01 d_M_follow_58 (ei_of rfl rfl)
  · have q2 : sx_ (mo_ σ) (ft_ (mo_ σ)) k c (mg_ σ 0) = ad_ (ft_ (mo_ σ)) c (σ 32 k) (σ 46 (c * 16 + σ 33 k)) (mg_ σ 0) := by unfold sx_; rw [if_neg (show ¬ mo_ σ 7 k = 0 by show ¬ σ 31 k = 0; omega), if_pos (show mo_ σ 7 k = 1 from q)]; rfl
    rw [q2] at h01 ⊢
    rw [q]
    refine qv_tsw F d_M_follow_19 (by decide) (by decide) (by decide) (off := 40) (tgt := 59) rfl rfl ?_
    refine qv_aload_n F d_M_follow_59 2 rfl ?_
    refine qv_iload_n F d_M_follow_60 4 rfl ?_
    refine qv_iload_n F d_M_follow_61 1 rfl ?_
    refine qv_aload_n F d_M_follow_62 2 rfl ?_
    refine g_M_62 F d_M_follow_63 ?_
    refine qv_iload F d_M_follow_66 0 rfl ?_
    refine qv_aload_n F d_M_follow_68 2 rfl ?_
    refine g_M_22 F d_M_follow_69 ?_
    refine qv_iload_n F d_M_follow_72 3 rfl ?_
    refine ld_33 F (by omega) d_M_follow_73 ?_
    refine qv_iadd F d_M_follow_74 ?_
    refine ld_46 F (by omega) d_M_follow_75 ?_
    rw [ec]
    refine i_M_104i F (c_M_more l X σ c (σ 32 k) (σ 46 (c * 16 + σ 33 k)) hc t8 h1.1 h5 h6) (by decide) (Nat.le_of_ble_eq_true rfl) d_M_follow_76 ?_
    exact qv_zret F hr hlk h01 d_M_follow_79 (ei_of rfl rfl)
  · have q2 : sx_ (mo_ σ) (ft_ (mo_ σ)) k c (mg_ σ 0) = hs_ (σ 46 (c * 16 + σ 32 k)) (σ 34 k) (σ 46 (c * 16 + σ 33 k)) 8 (mg_ σ 0) := by unfold sx_; rw [if_neg (show ¬ mo_ σ 7 k = 0 by show ¬ σ 31 k = 0; omega), if_neg (show ¬ mo_ σ 7 k = 1 by show ¬ σ 31 k = 1; omega), if_pos (show mo_ σ 7 k = 2 from q)]; rfl
    rw [q2] at h01 ⊢
    rw [q]
    refine qv_tsw F d_M_follow_19 (by decide) (by decide) (by decide) (off := 61) (tgt := 80) rfl rfl ?_
    refine qv_aload_n F d_M_follow_80 2 rfl ?_
    refine qv_aload_n F d_M_follow_81 2 rfl ?_
    refine g_M_62 F d_M_follow_82 ?_
    refine qv_iload F d_M_follow_85 0 rfl ?_
    refine qv_iload_n F d_M_follow_87 1 rfl ?_
    refine qv_iadd F d_M_follow_88 ?_
    refine ld_46 F (by omega) d_M_follow_89 ?_
    refine qv_aload_n F d_M_follow_90 2 rfl ?_
    refine g_M_25 F d_M_follow_91 ?_
    refine qv_iload_n F d_M_follow_94 3 rfl ?_
    refine ld_34 F (by omega) d_M_follow_95 ?_
    refine qv_aload_n F d_M_follow_96 2 rfl ?_
    refine g_M_62 F d_M_follow_97 ?_
    refine qv_iload F d_M_follow_100 0 rfl ?_
    refine qv_aload_n F d_M_follow_102 2 rfl ?_
    refine g_M_22 F d_M_follow_103 ?_
    refine qv_iload_n F d_M_follow_106 3 rfl ?_
    refine ld_33 F (by omega) d_M_follow_107 ?_
    refine qv_iadd F d_M_follow_108 ?_
    refine ld_46 F (by omega) d_M_follow_109 ?_
    rw [ec]
    refine i_M_108i F (c_M_holdMore l X σ (σ 46 (c * 16 + σ 32 k)) (σ 34 k) (σ 46 (c * 16 + σ 33 k)) (h1.1 _) t10 (h1.1 _) h1.2 h1.1) (by decide) (Nat.le_of_ble_eq_true rfl) d_M_follow_110 ?_
    exact qv_zret F hr hlk h01 d_M_follow_113 (ei_of rfl rfl)
  · have q2 : sx_ (mo_ σ) (ft_ (mo_ σ)) k c (mg_ σ 0) = ad_ (ft_ (mo_ σ)) c (σ 32 k) (ha_ (σ 47) (σ 46 (c * 16 + σ 33 k)) (σ 34 k) 8) (mg_ σ 0) := by unfold sx_; rw [if_neg (show ¬ mo_ σ 7 k = 0 by show ¬ σ 31 k = 0; omega), if_neg (show ¬ mo_ σ 7 k = 1 by show ¬ σ 31 k = 1; omega), if_neg (show ¬ mo_ σ 7 k = 2 by show ¬ σ 31 k = 2; omega)]; rfl
    rw [q2] at h01 ⊢
    rw [q]
    refine qv_tswO F d_M_follow_19 (by decide) (by decide) (tgt := 114) rfl ?_
    refine qv_aload_n F d_M_follow_114 2 rfl ?_
    refine qv_aload_n F d_M_follow_115 2 rfl ?_
    refine g_M_62 F d_M_follow_116 ?_
    refine qv_iload F d_M_follow_119 0 rfl ?_
    refine qv_aload_n F d_M_follow_121 2 rfl ?_
    refine g_M_22 F d_M_follow_122 ?_
    refine qv_iload_n F d_M_follow_125 3 rfl ?_
    refine ld_33 F (by omega) d_M_follow_126 ?_
    refine qv_iadd F d_M_follow_127 ?_
    refine ld_46 F (by omega) d_M_follow_128 ?_
    refine qv_aload_n F d_M_follow_129 2 rfl ?_
    refine g_M_25 F d_M_follow_130 ?_
    refine qv_iload_n F d_M_follow_133 3 rfl ?_
    refine ld_34 F (by omega) d_M_follow_134 ?_
    rw [ec]
    refine i_M_111i F (c_M_held l X σ (σ 46 (c * 16 + σ 33 k)) (σ 34 k) (h1.1 _) t10) (by decide) (Nat.le_of_ble_eq_true rfl) d_M_follow_135 ?_
    refine qv_istore (L' := [(5, _), (4, _), (3, _), (0, _), (1, _), (2, _)]) F d_M_follow_138 (by decide) rfl ?_
    refine qv_aload_n F d_M_follow_140 3 rfl ?_
    refine qv_iload_n F d_M_follow_141 5 rfl ?_
    refine qv_iload_n F d_M_follow_142 2 rfl ?_
    refine qv_iload F d_M_follow_143 0 rfl ?_
    refine i_M_104i F (c_M_more l X σ c (σ 32 k) (ha_ (σ 47) (σ 46 (c * 16 + σ 33 k)) (σ 34 k) 8) hc t8 h1.1 h5 h6) (by decide) (Nat.le_of_ble_eq_true rfl) d_M_follow_145 ?_
    exact qv_zret F hr hlk h01 d_M_follow_148 (ei_of rfl rfl)

