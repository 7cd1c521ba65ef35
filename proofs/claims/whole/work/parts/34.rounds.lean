/-! relations: the rounds -/
set_option maxRecDepth 100000 in
set_option maxHeartbeats 4000000 in
theorem c_T_renew (l : Launch) (X : wX) (σ : sg) (hn : σ 1 2 ≤ 40) (hc : σ 1 7 ≤ 8) (hm : ∀ k, σ 17 k ≤ 8) (hb0 : ∀ k, k < σ 1 7 → σ 18 k + σ 17 (σ 11 k) ≤ 8) (ht : tw_ σ) : mt_ l X y_T_renew w_T_renew 4 [.ref (adr X 3), .ref (adr X 1), .ref (adr X 2)] σ (ev_ (sr_ (ua σ 23 (ft_ σ)) (fin_ σ (σ 17) (σ 18) (σ 1 2) (σ 1 7)))) := by
  refine mt_of (own := R_T) rfl pl_T (Nat.le_of_ble_eq_true rfl) ?_
  intro zp ze zs zm za zb zt zc F hr hlk
  refine qv_sub (L' := [(0, _), (1, _), (2, _)]) [0, 1, 2] rfl ?_
  refine qv_aload_n F d_T_renew_0 0 rfl ?_
  refine g_T_11 F d_T_renew_1 ?_
  refine qv_iconst F (nI 0) d_T_renew_4 ic_0 ?_
  refine i_T_35v F (c_A_fill l X σ 21 128 0 rfl (by decide)) (by decide) (Nat.le_of_ble_eq_true rfl) d_T_renew_5 ?_
  refine qv_aload_n F d_T_renew_8 0 rfl ?_
  refine g_T_15 F d_T_renew_9 ?_
  refine qv_iconst F (nI 0) d_T_renew_12 ic_0 ?_
  refine i_T_35v F (c_A_fill l X _ 22 16 0 rfl (by decide)) (by decide) (Nat.le_of_ble_eq_true rfl) d_T_renew_13 ?_
  refine qv_aload_n F d_T_renew_16 0 rfl ?_
  refine qv_aload_n F d_T_renew_17 1 rfl ?_
  refine i_T_41v F (c_T_findWelcome l X _ ht.1 ht.2.1) (by decide) (Nat.le_of_ble_eq_true rfl) d_T_renew_18 ?_
  rw [ft_cg (t := ua (ua σ 21 fun _ => 0) 22 fun _ => 0) (t' := σ) rfl rfl]
  refine qv_aload_n F d_T_renew_21 0 rfl ?_
  refine qv_iconst F (nI 1) d_T_renew_22 ic_1 ?_
  refine p_T_21 F (Or.inr rfl) d_T_renew_23 ?_
  refine qv_iconst F (nI 0) d_T_renew_26 ic_0 ?_
  refine qv_istore_n (L' := [(3, _), (0, _), (1, _), (2, _)]) F d_T_renew_27 (by decide) rfl ?_
  rw [rn_0]
  have hw : ∀ k, ft_ σ k < 256 := ft_lt σ
  have lp := lu_up (fun i (r : rs_) => vv_ zp l ze (rr_ 4) zs zm za zb zt zc (MQ zb (mq_ X (ev_ (sr_ (ua σ 23 (ft_ σ)) (fin_ σ (σ 17) (σ 18) (σ 1 2) (σ 1 7))))) za zs 0 0 (aw_ X)) X 4 [(3, .int (nI i)), (0, .ref (adr X 3)), (1, .ref (adr X 1)), (2, .ref (adr X 2))] (sr_ (ua σ 23 (ft_ σ)) r) 28 []) (fun i r => B_ r ∧ fl_ r ∧ lo_ (rd_ σ (ft_ σ) (σ 17) (σ 18) (σ 1 2) (σ 1 7)) (1153 - i) r = fin_ σ (σ 17) (σ 18) (σ 1 2) (σ 1 7)) 1153 ?_ ?_ 0 (fun _ => 0, fun _ => 0, 1) (Nat.zero_le _) ⟨B_0 1, Or.inr rfl, rfl⟩
  · exact lp
  · intro r hI
    have hI3 : r = fin_ σ (σ 17) (σ 18) (σ 1 2) (σ 1 7) := hI.2.2
    have hfl : r.2.2 < 2 ^ 31 := by rcases hI.2.1 with h | h <;> rw [h] <;> decide
    refine qv_aload_n F d_T_renew_28 1 rfl ?_
    refine g_T_21 F d_T_renew_29 ?_
    refine qv_ifeq F d_T_renew_32 rfl hfl (fun hb => ?_) (fun hb => ?_)
    ·
      exact qv_ret F hr hlk d_T_renew_65 (ev_of (by rw [hI3]))
    ·
      refine qv_iload_n F d_T_renew_35 0 rfl ?_
      refine qv_sipush F (nI 1153) d_T_renew_36 sic_1153 ?_
      refine qv_icmpge F d_T_renew_39 rfl (by decide) (by decide) (fun hb => ?_) (fun hb => ?_)
      ·
        exact qv_ret F hr hlk d_T_renew_65 (ev_of (by rw [hI3]))
      ·
        exact absurd hb (by decide)
  · intro i r hi hI ih
    obtain ⟨hB, hf, hS⟩ := hI
    have hfl : r.2.2 < 2 ^ 31 := by rcases hf with h | h <;> rw [h] <;> decide
    refine qv_aload_n F d_T_renew_28 1 rfl ?_
    refine g_T_21 F d_T_renew_29 ?_
    refine qv_ifeq F d_T_renew_32 rfl hfl (fun hb => ?_) (fun hb => ?_)
    ·
      rw [lo_0 (show r.2.2 = 0 from hb)] at hS
      exact qv_ret F hr hlk d_T_renew_65 (ev_of (by rw [hS]))
    ·
      have hne : r.2.2 ≠ 0 := hb
      refine qv_iload_n F d_T_renew_35 0 rfl ?_
      refine qv_sipush F (nI 1153) d_T_renew_36 sic_1153 ?_
      refine qv_icmpge F d_T_renew_39 rfl (by omega) (by omega) (fun hb => ?_) (fun hb => ?_)
      ·
        omega
      ·
        refine qv_aload_n F d_T_renew_42 1 rfl ?_
        refine qv_iconst F (nI 0) d_T_renew_43 ic_0 ?_
        refine p_T_21 F (Or.inl rfl) d_T_renew_44 ?_
        refine qv_aload_n F d_T_renew_47 1 rfl ?_
        refine qv_aload_n F d_T_renew_48 2 rfl ?_
        refine qv_aload_n F d_T_renew_49 3 rfl ?_
        rw [rn_g]
        have hB0 : B_ (r.1, r.2.1, 0) := hB
        refine i_T_45v F (c_T_applyStatements l X (sr_ (ua σ 23 (ft_ σ)) (r.1, r.2.1, 0)) hn hm ht hB0 hw) (by decide) (Nat.le_of_ble_eq_true rfl) d_T_renew_50 ?_
        rw [sr_sr]
        have e1 : ss_ (sr_ (ua σ 23 (ft_ σ)) (r.1, r.2.1, 0)) = ss_ σ := ss_cg rfl rfl rfl rfl
        rw [e1]
        have hB1 : B_ (ss_ σ (ft_ σ) (σ 17) (σ 1 2) (r.1, r.2.1, 0)) := ss_B hw hB0
        refine qv_st (σ' := sr_ (ua σ 23 (ft_ σ)) (ss_ σ (ft_ σ) (σ 17) (σ 1 2) (r.1, r.2.1, 0))) rfl ?_
        refine qv_aload_n F d_T_renew_53 1 rfl ?_
        refine qv_aload_n F d_T_renew_54 2 rfl ?_
        refine qv_aload_n F d_T_renew_55 3 rfl ?_
        refine i_T_49v F (c_T_applyCalls l X (sr_ (ua σ 23 (ft_ σ)) (ss_ σ (ft_ σ) (σ 17) (σ 1 2) (r.1, r.2.1, 0))) hc hb0 ht hB1 hw) (by decide) (Nat.le_of_ble_eq_true rfl) d_T_renew_56 ?_
        rw [sr_sr]
        have e2 : cs_ (sr_ (ua σ 23 (ft_ σ)) (ss_ σ (ft_ σ) (σ 17) (σ 1 2) (r.1, r.2.1, 0))) = cs_ σ := cs_cg rfl rfl rfl rfl rfl
        rw [e2]
        refine qv_st (σ' := sr_ (ua σ 23 (ft_ σ)) (rd_ σ (ft_ σ) (σ 17) (σ 18) (σ 1 2) (σ 1 7) r)) rfl ?_
        refine qv_iinc (L' := [(3, _), (0, _), (1, _), (2, _)]) F _ d_T_renew_59 0 rfl (ii_1 _) (by decide) rfl ?_
        refine qv_goto F d_T_renew_62 rfl ?_
        refine ih _ ⟨rd_B hw hB, rd_fl, ?_⟩
        have e3 : 1153 - i = (1153 - (i + 1)) + 1 := by omega
        rw [e3] at hS
        rw [← hS]
        exact (if_neg hne).symm

