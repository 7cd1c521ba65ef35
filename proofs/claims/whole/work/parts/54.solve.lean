/-! solve and size -/
def fs_ (σ : sg) : rs_ := fin_ σ (ct2_ σ (σ 1 7)) (fb_ σ (σ 1 7) (σ 18)) (σ 1 2) (σ 1 7)
def sg_ (σ : sg) : Bool := gd_ (so_ σ (cr_ σ (σ 1 7)) (σ 1 7))
set_option maxRecDepth 100000 in
set_option maxHeartbeats 4000000 in
theorem c_P_solve (l : Launch) (X : wX) (σ : sg) (hn : σ 1 2 ≤ 40) (hc : σ 1 7 ≤ 8) (ht : tw_ σ) : mt_ l X y_P_solve w_P_solve 6 [.ref (adr X 0)] σ (ei_ (if sg_ σ = true then nI (sp_ (fs_ σ).1 128) else -3) (if sg_ σ = true then sr_ (ua (ny_ σ) 23 (ft_ σ)) (fs_ σ) else nn_ σ)) := by
  refine mt_of (own := R_P) rfl pl_P (Nat.le_of_ble_eq_true rfl) ?_
  intro zp ze zs zm za zb zt zc F hr hlk
  refine qv_sub (L' := [(0, _)]) [0] rfl ?_
  have h11 := ht.2.2.2.2.2.2.1
  have h12 := ht.2.2.2.2.2.2.2.1
  have hok := ok_cr h11 h12 (σ 1 7)
  refine qv_aload_n F d_P_solve_0 0 rfl ?_
  refine g_P_19 F d_P_solve_1 ?_
  refine qv_aload_n F d_P_solve_4 0 rfl ?_
  refine g_P_12 F d_P_solve_5 ?_
  refine i_P_71i F (c_N_renew l X σ hc h11 h12) (by decide) (Nat.le_of_ble_eq_true rfl) d_P_solve_8 ?_
  refine qv_ifneB F d_P_solve_11 rfl (fun hb => ?_) (fun hb => ?_)
  ·
    have hg : sg_ σ = true := hb
    have e1 : ft_ (ny_ σ) = ft_ σ := ft_cg rfl rfl
    have e2 : fin_ (ny_ σ) = fin_ σ := fin_cg rfl rfl rfl rfl rfl rfl rfl rfl rfl rfl rfl
    rw [hg, hb, if_pos rfl, if_pos rfl, if_pos rfl]
    refine qv_aload_n F d_P_solve_17 0 rfl ?_
    refine g_P_26 F d_P_solve_18 ?_
    refine qv_aload_n F d_P_solve_21 0 rfl ?_
    refine g_P_12 F d_P_solve_22 ?_
    refine qv_aload_n F d_P_solve_25 0 rfl ?_
    refine g_P_19 F d_P_solve_26 ?_
    refine i_P_75v F (c_T_renew l X (ny_ σ) hn hc (ct2_8 hb) (fun k hk => fb_8 hok hb hk) ht) (by decide) (Nat.le_of_ble_eq_true rfl) d_P_solve_29 ?_
    rw [e1, e2]
    refine qv_st (σ' := sr_ (ua (ny_ σ) 23 (ft_ σ)) (fs_ σ)) rfl ?_
    refine qv_aload_n F d_P_solve_32 0 rfl ?_
    refine g_P_26 F d_P_solve_33 ?_
    refine i_P_78i F (c_T_countPoints l X (sr_ (ua (ny_ σ) 23 (ft_ σ)) (fs_ σ)) (fin_B _ _ _ _ _).1) (by decide) (Nat.le_of_ble_eq_true rfl) d_P_solve_36 ?_
    exact qv_iret F hr hlk d_P_solve_39 (ei_of rfl rfl)
  ·
    have hg : sg_ σ = false := hb
    rw [hg, hb]
    refine qv_bipush F (-3) d_P_solve_14 bic_m3 ?_
    exact qv_iret F hr hlk d_P_solve_16 (ei_of rfl rfl)
def sz_ (a b c d o : Nat) (x : Int32) : Int32 := if wi_ x 5 = true then nI ([a, b, c, d, o].getD (tn_ x) 0) else -1
theorem wi_out {x : Int32} {n : Nat} (h : wi_ x n = false) : x.toInt < 0 ∨ (n : Int) - 1 < x.toInt := by
  unfold wi_ at h
  rw [decide_eq_false_iff_not] at h
  omega
set_option maxRecDepth 100000 in
set_option maxHeartbeats 4000000 in
theorem c_P_size (l : Launch) (X : wX) (σ : sg) (x : Int32) (hc : σ 1 7 ≤ 8) (h13 : ∀ k, σ 13 k ≤ 4) (h22 : ∀ k, σ 22 k < 256) : mt_ l X y_P_size w_P_size 3 [.ref (adr X 0), .int x] σ (ei_ (sz_ (σ 1 2) (σ 1 7) (sm_ (σ 13) (σ 1 7)) (sp_ (σ 22) 16) (σ 0 4) x) σ) := by
  refine mt_of (own := R_P) rfl pl_P (Nat.le_of_ble_eq_true rfl) ?_
  intro zp ze zs zm za zb zt zc F hr hlk
  refine qv_sub (L' := [(0, _), (1, _)]) [0, 1] rfl ?_
  refine qv_iload_n F d_P_size_0 1 rfl ?_
  cases hx : wi_ x 5 with
  | false =>
    refine qv_tswI F d_P_size_1 (wi_out hx) (tgt := 73) rfl ?_
    refine qv_iconst F (-1) d_P_size_73 ic_m1 ?_
    exact qv_iret F hr hlk d_P_size_74 (ei_of (by unfold sz_; rw [hx]; rfl) rfl)
  | true =>
    obtain ⟨j, hj, rfl⟩ := wi_t (by decide) hx
    rcases (by omega : j = 0 ∨ j = 1 ∨ j = 2 ∨ j = 3 ∨ j = 4) with rfl | rfl | rfl | rfl | rfl
    ·
      refine qv_tsw F d_P_size_1 (by decide) (by decide) (by decide) (off := 35) (tgt := 36) rfl rfl ?_
      refine qv_aload_n F d_P_size_36 0 rfl ?_
      refine g_P_12 F d_P_size_37 ?_
      refine g_P_113 F d_P_size_40 ?_
      exact qv_iret F hr hlk d_P_size_43 (ei_of (by unfold sz_; rw [hx, tn_nI (by decide)]; rfl) rfl)
    ·
      refine qv_tsw F d_P_size_1 (by decide) (by decide) (by decide) (off := 43) (tgt := 44) rfl rfl ?_
      refine qv_aload_n F d_P_size_44 0 rfl ?_
      refine g_P_12 F d_P_size_45 ?_
      refine g_P_116 F d_P_size_48 ?_
      exact qv_iret F hr hlk d_P_size_51 (ei_of (by unfold sz_; rw [hx, tn_nI (by decide)]; rfl) rfl)
    ·
      refine qv_tsw F d_P_size_1 (by decide) (by decide) (by decide) (off := 51) (tgt := 52) rfl rfl ?_
      refine qv_aload_n F d_P_size_52 0 rfl ?_
      refine g_P_12 F d_P_size_53 ?_
      refine i_P_117i F (c_G_countPasses l X σ hc h13) (by decide) (Nat.le_of_ble_eq_true rfl) d_P_size_56 ?_
      exact qv_iret F hr hlk d_P_size_59 (ei_of (by unfold sz_; rw [hx, tn_nI (by decide)]; rfl) rfl)
    ·
      refine qv_tsw F d_P_size_1 (by decide) (by decide) (by decide) (off := 59) (tgt := 60) rfl rfl ?_
      refine qv_aload_n F d_P_size_60 0 rfl ?_
      refine g_P_26 F d_P_size_61 ?_
      refine i_P_120i F (c_T_countHolds l X σ h22) (by decide) (Nat.le_of_ble_eq_true rfl) d_P_size_64 ?_
      exact qv_iret F hr hlk d_P_size_67 (ei_of (by unfold sz_; rw [hx, tn_nI (by decide)]; rfl) rfl)
    ·
      refine qv_tsw F d_P_size_1 (by decide) (by decide) (by decide) (off := 67) (tgt := 68) rfl rfl ?_
      refine qv_aload_n F d_P_size_68 0 rfl ?_
      refine g_P_37 F d_P_size_69 ?_
      exact qv_iret F hr hlk d_P_size_72 (ei_of (by unfold sz_; rw [hx, tn_nI (by decide)]; rfl) rfl)

