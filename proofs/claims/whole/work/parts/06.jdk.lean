/-! the JDK's: Arrays.fill, Integer.bitCount -/
set_option maxRecDepth 100000 in
set_option maxHeartbeats 4000000 in
theorem c_A_fill (l : Launch) (X : wX) (σ : sg) (q n x : Nat) (hq : dz_[q]? = some (.inl (false, n))) (hnq : n < 2 ^ 31) : mt_ l X y_A_fill w_A_fill 0 [.ref (adr X q), .int (nI x)] σ (ev_ (ua σ q (fun _ => x))) := by
  refine mt_of (own := R_A) rfl pl_A (Nat.le_of_ble_eq_true rfl) ?_
  intro zp ze zs zm za zb zt zc F hr hlk
  refine qv_sub (L' := [(0, _), (1, _)]) [0, 1] rfl ?_
  refine qv_iconst F (nI 0) d_A_fill_0 ic_0 ?_
  refine qv_istore_n (L' := [(2, _), (0, _), (1, _)]) F d_A_fill_1 (by decide) rfl ?_
  refine qv_aload_n F d_A_fill_2 1 rfl ?_
  refine qv_alen F q hq d_A_fill_3 ?_
  refine qv_istore_n (L' := [(3, _), (2, _), (0, _), (1, _)]) F d_A_fill_4 (by decide) rfl ?_
  have lp := lu_up (fun i (g : Nat → Nat) => vv_ zp l ze (rr_ 0) zs zm za zb zt zc (MQ zb (mq_ X (ev_ (ua σ q (fun _ => x)))) za zs 0 0 (aw_ X)) X 4 [(2, .int (nI i)), (3, .int (nI n)), (0, .ref (adr X q)), (1, .int (nI x))] (ua σ q g) 5 []) (fun i g => ∀ k, k < i → g k = x) n ?_ ?_ 0 (σ q) (Nat.zero_le _) (fun k hk => by omega)
  ·
    refine qv_sub (L' := [(2, _), (3, _), (0, _), (1, _)]) [1, 0, 2, 3] rfl ?_
    exact qv_st (ua_id σ q).symm lp
  · intro g hg
    refine qv_iload_n F d_A_fill_5 0 rfl ?_
    refine qv_iload_n F d_A_fill_6 1 rfl ?_
    refine qv_icmpge F d_A_fill_7 rfl (by omega) (by omega) (fun hb => ?_) (fun hb => ?_)
    ·
      refine qv_ext q (z := false) (n := n) (g := fun _ => x) hq (fun k hk => by rw [ua_eq]; exact (hg k hk).symm) ?_
      exact qv_ret F hr hlk d_A_fill_20 (ev_of (ua_ua σ q g _))
    ·
      omega
  · intro i g hi hg ih
    refine qv_iload_n F d_A_fill_5 0 rfl ?_
    refine qv_iload_n F d_A_fill_6 1 rfl ?_
    refine qv_icmpge F d_A_fill_7 rfl (by omega) (by omega) (fun hb => ?_) (fun hb => ?_)
    ·
      omega
    ·
      refine qv_aload_n F d_A_fill_10 2 rfl ?_
      refine qv_iload_n F d_A_fill_11 0 rfl ?_
      refine qv_iload_n F d_A_fill_12 3 rfl ?_
      refine qv_iast F q hq hi hnq d_A_fill_13 ?_
      refine qv_st (us_ua σ q g i x) ?_
      refine qv_iinc (L' := [(2, _), (3, _), (0, _), (1, _)]) F _ d_A_fill_14 0 rfl (ii_1 _) (by decide) rfl ?_
      refine qv_goto F d_A_fill_17 rfl ?_
      refine ih _ (fun k hk => ?_)
      by_cases ek : k = i
      · subst ek; exact up_eq _ _ _
      · rw [up_ne ek]; exact hg k (by omega)

