/-! the reference: the sum at the end of solve -/
set_option maxRecDepth 100000 in
set_option maxHeartbeats 4000000 in
theorem ms_sum (l : Launch) (X : wX) (σ : sg) (r : rs_) (hB : B_ r) {zp : Program} {ze : Env} {zs : State} {zm : MethodId} {za : Array Value} {zb : List Frame} {zt : Method} {zc : Code} (F : fx_ zp zs zm za zc b_M_solve 4 R_M X) (hr : zt.sig.returnType = some .int) (hlk : zt.locks = false) {x1 : Int32} : vv_ zp l ze (rr_ 4) zs zm za zb zt zc (MQ zb (mq_ X (ei_ (nI (sp_ r.1 128)) (mr_ σ r))) za zs 0 0 (aw_ X)) X 4 [(3, .int (nI 0)), (2, .int (nI 0)), (1, .int x1), (0, .ref (adr X 28))] (mr_ σ r) 177 [] := by
  have lp := lu_up (fun i (_ : Unit) => vv_ zp l ze (rr_ 4) zs zm za zb zt zc (MQ zb (mq_ X (ei_ (nI (sp_ r.1 128)) (mr_ σ r))) za zs 0 0 (aw_ X)) X 4 [(3, .int (nI i)), (2, .int (nI (sp_ r.1 i))), (1, .int x1), (0, .ref (adr X 28))] (mr_ σ r) 177 []) (fun _ _ => True) 128 ?_ ?_ 0 () (Nat.zero_le _) trivial
  · exact lp
  · intro _ _
    refine qv_iload_n F d_M_solve_177 0 rfl ?_
    refine qv_sipush F (nI 128) d_M_solve_178 sic_128 ?_
    refine qv_icmpge F d_M_solve_181 rfl (by decide) (by decide) (fun hb => ?_) (fun hb => ?_)
    ·
      refine qv_iload_n F d_M_solve_202 1 rfl ?_
      exact qv_iret F hr hlk d_M_solve_203 (ei_of rfl rfl)
    ·
      exact absurd hb (by decide)
  · intro i _ hi _ ih
    refine qv_iload_n F d_M_solve_177 0 rfl ?_
    refine qv_sipush F (nI 128) d_M_solve_178 sic_128 ?_
    refine qv_icmpge F d_M_solve_181 rfl (by omega) (by omega) (fun hb => ?_) (fun hb => ?_)
    ·
      omega
    ·
      refine qv_iload_n F d_M_solve_184 1 rfl ?_
      refine qv_aload_n F d_M_solve_185 3 rfl ?_
      refine g_M_62 F d_M_solve_186 ?_
      refine qv_iload_n F d_M_solve_189 0 rfl ?_
      refine ld_46 F hi d_M_solve_190 ?_
      refine i_M_133i F (c_M_bits l X (mr_ σ r) (r.1 i) (hB.1 i)) (by decide) (Nat.le_of_ble_eq_true rfl) d_M_solve_191 ?_
      refine qv_iadd F d_M_solve_194 ?_
      refine qv_istore_n (L' := [(2, _), (3, _), (1, _), (0, _)]) F d_M_solve_195 (by decide) rfl ?_
      refine qv_sub (L' := [(3, _), (2, _), (1, _), (0, _)]) [1, 0, 2, 3] rfl ?_
      refine qv_iinc (L' := [(3, _), (2, _), (1, _), (0, _)]) F _ d_M_solve_196 0 rfl (ii_1 _) (by decide) rfl ?_
      refine qv_goto F d_M_solve_199 rfl ?_
      exact ih () trivial
/-! the reference: solve, size -/
def fsM_ (σ : sg) : rs_ := fin_ (mo_ σ) (ct2_ (mo_ σ) (σ 28 7)) (fb_ (mo_ σ) (σ 28 7) (σ 44)) (σ 28 2) (σ 28 7)
def gM_ (σ : sg) : Bool := gd_ (so_ (mo_ σ) (cr_ (mo_ σ) (σ 28 7)) (σ 28 7))
set_option maxRecDepth 100000 in
set_option maxHeartbeats 4000000 in
theorem c_M_solve (l : Launch) (X : wX) (σ : sg) (hn : σ 28 2 ≤ 40) (hc : σ 28 7 ≤ 8) (ht : tw_ (mo_ σ)) : mt_ l X y_M_solve w_M_solve 4 [.ref (adr X 28)] σ (ei_ (if gM_ σ = true then nI (sp_ (fsM_ σ).1 128) else -3) (if gM_ σ = true then mr_ (my_ σ) (fsM_ σ) else mn2_ σ)) := by
  refine mt_of (own := R_M) rfl pl_M (Nat.le_of_ble_eq_true rfl) ?_
  intro zp ze zs zm za zb zt zc F hr hlk
  refine qv_sub (L' := [(0, _)]) [0] rfl ?_
  have h11 : ∀ k, σ 35 k < 4 := ht.2.2.2.2.2.2.1
  have h12 : ∀ k, σ 36 k < 4 := ht.2.2.2.2.2.2.2.1
  have hok : ok_ (mo_ σ) (cr_ (mo_ σ) (σ 28 7)) (σ 28 7) := ok_cr h11 h12 (σ 28 7)
  have hgd : gd_ (S5_ (mo_ σ) (cr_ (mo_ σ) (σ 28 7)) (σ 28 7)) = gM_ σ := gd_S5 hok
  refine qv_aload_n F d_M_solve_0 0 rfl ?_
  refine i_M_120v F (c_M_reaches l X σ hc h11 h12) (by decide) (Nat.le_of_ble_eq_true rfl) d_M_solve_1 ?_
  refine qv_aload_n F d_M_solve_4 0 rfl ?_
  refine i_M_123i F (c_M_count l X (ua σ 41 (rch_ (cr_ (mo_ σ) (σ 28 7)))) hc (cr_ (mo_ σ) (σ 28 7)) h11 h12 rfl) (by decide) (Nat.le_of_ble_eq_true rfl) d_M_solve_5 ?_
  rw [S5_cg (t := mo_ (ua σ 41 (rch_ (cr_ (mo_ σ) (σ 28 7))))) (t' := mo_ σ) rfl rfl]
  refine qv_stk (st' := [.int (nI (gM_ σ).toNat)]) (by rw [← hgd]; rfl) ?_
  refine qv_st (σ' := mn2_ σ) rfl ?_
  refine qv_ifneB F d_M_solve_8 rfl (fun hb => ?_) (fun hb => ?_)
  ·
    have hg : gM_ σ = true := hb
    have hw : ∀ k, ft_ (mo_ σ) k < 256 := ft_lt _
    have hm8 : ∀ k, ct2_ (mo_ σ) (σ 28 7) k ≤ 8 := ct2_8 hg
    have hb8 : ∀ k, k < σ 28 7 → fb_ (mo_ σ) (σ 28 7) (σ 44) k + ct2_ (mo_ σ) (σ 28 7) (σ 35 k) ≤ 8 := fun k hk => fb_8 hok hg hk
    rw [hg, if_pos rfl, if_pos rfl]
    refine qv_iconst F (nI 0) d_M_solve_14 ic_0 ?_
    refine qv_istore_n (L' := [(1, _), (0, _)]) F d_M_solve_15 (by decide) rfl ?_
    have lp := lu_up (fun i (g : Nat → Nat) => vv_ zp l ze (rr_ 4) zs zm za zb zt zc (MQ zb (mq_ X (ei_ (nI (sp_ (fsM_ σ).1 128)) (mr_ (my_ σ) (fsM_ σ)))) za zs 0 0 (aw_ X)) X 4 [(1, .int (nI i)), (0, .ref (adr X 28))] (ua (mn2_ σ) 43 g) 16 []) (fun i g => ∀ k, k < i → g k = S5_ (mo_ σ) (cr_ (mo_ σ) (σ 28 7)) (σ 28 7) k) 4 ?_ ?_ 0 (σ 43) (Nat.zero_le _) (fun k hk => by omega)
    · exact qv_st (ua_id (mn2_ σ) 43).symm lp
    · intro g hI
      refine qv_ext 43 (z := false) (n := 4) (g := ct2_ (mo_ σ) (σ 28 7)) rfl (fun k hk => ?_) ?_
      · show ct2_ (mo_ σ) (σ 28 7) k = g k
        rw [hI k hk, S5_so hok hg hk]
        unfold ct2_
        rw [if_pos hk]
      rw [ua_ua, my_0]
      refine qv_iload_n F d_M_solve_16 0 rfl ?_
      refine qv_iconst F (nI 4) d_M_solve_17 ic_4 ?_
      refine qv_icmpge F d_M_solve_18 rfl (by decide) (by decide) (fun hb => ?_) (fun hb => ?_)
      ·
        refine qv_iconst F (nI 0) d_M_solve_39 ic_0 ?_
        refine qv_istore_n (L' := [(1, _), (0, _)]) F d_M_solve_40 (by decide) rfl ?_
        have lpb := lu_up (fun i (a : (Nat → Nat) × (Nat → Nat)) => vv_ zp l ze (rr_ 4) zs zm za zb zt zc (MQ zb (mq_ X (ei_ (nI (sp_ (fsM_ σ).1 128)) (mr_ (my_ σ) (fsM_ σ)))) za zs 0 0 (aw_ X)) X 4 [(1, .int (nI i)), (0, .ref (adr X 28))] (my0_ σ a.1 a.2) 41 []) (fun i a => (∀ k, a.1 k = if k < i then ba_ (mo_ σ) (cr_ (mo_ σ) (σ 28 7)) (so_ (mo_ σ) (cr_ (mo_ σ) (σ 28 7)) (σ 28 7)) k else σ 44 k) ∧ ∀ k, a.2 k = if k < i then σ 35 k else σ 45 k) (σ 28 7) ?_ ?_ 0 (σ 44, σ 45) (Nat.zero_le _) ⟨fun k => by rw [if_neg (by omega)], fun k => by rw [if_neg (by omega)]⟩
        · exact lpb
        · intro a hI
          obtain ⟨b, sc⟩ := a
          have eb : b = fb_ (mo_ σ) (σ 28 7) (σ 44) := by funext k; exact hI.1 k
          have es : sc = fun k => if k < σ 28 7 then σ 35 k else σ 45 k := by funext k; exact hI.2 k
          subst eb
          subst es
          refine qv_iload_n F d_M_solve_41 0 rfl ?_
          refine qv_aload_n F d_M_solve_42 1 rfl ?_
          refine g_M_86 F d_M_solve_43 ?_
          refine qv_icmpge F d_M_solve_46 rfl (show σ 28 7 < 2 ^ 31 by omega) (show σ 28 7 < 2 ^ 31 by omega) (fun hb => ?_) (fun hb => ?_)
          ·
            refine qv_aload_n F d_M_solve_96 1 rfl ?_
            refine qv_aload_n F d_M_solve_97 1 rfl ?_
            refine g_M_86 F d_M_solve_98 ?_
            refine p_M_127 F d_M_solve_101 ?_
            refine qv_st (σ' := my_ σ) rfl ?_
            refine qv_iconst F (nI 0) d_M_solve_104 ic_0 ?_
            refine qv_istore_n (L' := [(1, _), (0, _)]) F d_M_solve_105 (by decide) rfl ?_
            have lpp := lu_up (fun i (g : Nat → Nat) => vv_ zp l ze (rr_ 4) zs zm za zb zt zc (MQ zb (mq_ X (ei_ (nI (sp_ (fsM_ σ).1 128)) (mr_ (my_ σ) (fsM_ σ)))) za zs 0 0 (aw_ X)) X 4 [(1, .int (nI i)), (0, .ref (adr X 28))] (ua (my_ σ) 46 g) 106 []) (fun i g => ∀ k, k < i → g k = 0) 128 ?_ ?_ 0 (σ 46) (Nat.zero_le _) (fun k hk => by omega)
            · exact qv_st (ua_id (my_ σ) 46).symm lpp
            · intro g hg0
              refine qv_ext 46 (z := false) (n := 128) (g := fun _ => 0) rfl (fun k hk => by rw [ua_eq]; exact (hg0 k hk).symm) ?_
              rw [ua_ua]
              refine qv_iload_n F d_M_solve_106 0 rfl ?_
              refine qv_sipush F (nI 128) d_M_solve_107 sic_128 ?_
              refine qv_icmpge F d_M_solve_110 rfl (by decide) (by decide) (fun hb => ?_) (fun hb => ?_)
              ·
                refine qv_iconst F (nI 0) d_M_solve_126 ic_0 ?_
                refine qv_istore_n (L' := [(1, _), (0, _)]) F d_M_solve_127 (by decide) rfl ?_
                have lph := lu_up (fun i (g : Nat → Nat) => vv_ zp l ze (rr_ 4) zs zm za zb zt zc (MQ zb (mq_ X (ei_ (nI (sp_ (fsM_ σ).1 128)) (mr_ (my_ σ) (fsM_ σ)))) za zs 0 0 (aw_ X)) X 4 [(1, .int (nI i)), (0, .ref (adr X 28))] (ua (ua (my_ σ) 46 fun _ => 0) 47 g) 128 []) (fun i g => ∀ k, k < i → g k = 0) 16 ?_ ?_ 0 (σ 47) (Nat.zero_le _) (fun k hk => by omega)
                · exact qv_st (ua_id (ua (my_ σ) 46 fun _ => 0) 47).symm lph
                · intro g hg0
                  refine qv_ext 47 (z := false) (n := 16) (g := fun _ => 0) rfl (fun k hk => by rw [ua_eq]; exact (hg0 k hk).symm) ?_
                  rw [ua_ua, mr_z (my_ σ) (fun _ => 0) (fun _ => 0) 1]
                  refine qv_iload_n F d_M_solve_128 0 rfl ?_
                  refine qv_bipush F (nI 16) d_M_solve_129 bic_16 ?_
                  refine qv_icmpge F d_M_solve_131 rfl (by decide) (by decide) (fun hb => ?_) (fun hb => ?_)
                  ·
                    refine qv_iconst F (nI 1) d_M_solve_147 ic_1 ?_
                    refine qv_istore_n (L' := [(1, _), (0, _)]) F d_M_solve_148 (by decide) rfl ?_
                    refine qv_iconst F (nI 0) d_M_solve_149 ic_0 ?_
                    refine qv_istore_n (L' := [(2, _), (1, _), (0, _)]) F d_M_solve_150 (by decide) rfl ?_
                    have lpr := lu_up (fun i (r : rs_) => vv_ zp l ze (rr_ 4) zs zm za zb zt zc (MQ zb (mq_ X (ei_ (nI (sp_ (fsM_ σ).1 128)) (mr_ (my_ σ) (fsM_ σ)))) za zs 0 0 (aw_ X)) X 4 [(2, .int (nI i)), (1, .int (nI r.2.2)), (0, .ref (adr X 28))] (mr_ (my_ σ) r) 151 []) (fun i r => B_ r ∧ fl_ r ∧ lo_ (rd_ (mo_ σ) (ft_ (mo_ σ)) (ct2_ (mo_ σ) (σ 28 7)) (fb_ (mo_ σ) (σ 28 7) (σ 44)) (σ 28 2) (σ 28 7)) (1200 - i) r = fsM_ σ) 1200 ?_ ?_ 0 (fun _ => 0, fun _ => 0, 1) (Nat.zero_le _) ⟨B_0 1, Or.inr rfl, (lo_same ht hw (fun a _ => hm8 a) hb8 _ (B_0 1)).symm⟩
                    · exact lpr
                    · intro r hI2
                      have hI3 : r = fsM_ σ := hI2.2.2
                      have hB := hI2.1
                      have hfl : r.2.2 < 2 ^ 31 := by rcases hI2.2.1 with h | h <;> rw [h] <;> decide
                      rw [← hI3]
                      refine qv_iload_n F d_M_solve_151 0 rfl ?_
                      refine qv_sipush F (nI 1200) d_M_solve_152 sic_1200 ?_
                      refine qv_icmpge F d_M_solve_155 rfl (by decide) (by decide) (fun hb => ?_) (fun hb => ?_)
                      ·
                        refine qv_iconst F (nI 0) d_M_solve_173 ic_0 ?_
                        refine qv_istore_n (L' := [(2, _), (1, _), (0, _)]) F d_M_solve_174 (by decide) rfl ?_
                        refine qv_iconst F (nI 0) d_M_solve_175 ic_0 ?_
                        refine qv_istore_n (L' := [(3, _), (2, _), (1, _), (0, _)]) F d_M_solve_176 (by decide) rfl ?_
                        refine qv_sub (L' := [(3, _), (2, _), (1, _), (0, _)]) [0, 1, 2, 3] rfl ?_
                        exact ms_sum l X (my_ σ) r hB F hr hlk
                      ·
                        exact absurd hb (by decide)
                    · intro i r hi hI2 ih
                      obtain ⟨hB, hf, hS⟩ := hI2
                      have hfl : r.2.2 < 2 ^ 31 := by rcases hf with h | h <;> rw [h] <;> decide
                      refine qv_iload_n F d_M_solve_151 0 rfl ?_
                      refine qv_sipush F (nI 1200) d_M_solve_152 sic_1200 ?_
                      refine qv_icmpge F d_M_solve_155 rfl (by omega) (by omega) (fun hb => ?_) (fun hb => ?_)
                      ·
                        omega
                      ·
                        refine qv_iload_n F d_M_solve_158 1 rfl ?_
                        refine qv_ifeq F d_M_solve_159 rfl hfl (fun hb => ?_) (fun hb => ?_)
                        ·
                          rw [lo_0 hb] at hS
                          rw [← hS]
                          refine qv_iconst F (nI 0) d_M_solve_173 ic_0 ?_
                          refine qv_istore_n (L' := [(2, _), (1, _), (0, _)]) F d_M_solve_174 (by decide) rfl ?_
                          refine qv_iconst F (nI 0) d_M_solve_175 ic_0 ?_
                          refine qv_istore_n (L' := [(3, _), (2, _), (1, _), (0, _)]) F d_M_solve_176 (by decide) rfl ?_
                          refine qv_sub (L' := [(3, _), (2, _), (1, _), (0, _)]) [0, 1, 2, 3] rfl ?_
                          exact ms_sum l X (my_ σ) r hB F hr hlk
                        ·
                          have hne := hb
                          have hB0 : B_ (mg_ (mr_ (my_ σ) r) 0) := hB
                          refine qv_aload_n F d_M_solve_162 2 rfl ?_
                          refine i_M_130i F (c_M_round l X (mr_ (my_ σ) r) hn hc hm8 hb8 ht hB0) (by decide) (Nat.le_of_ble_eq_true rfl) d_M_solve_163 ?_
                          rw [mr_mr]
                          have e1 : rd_ (mo_ (mr_ (my_ σ) r)) = rd_ (mo_ σ) := by
                            funext w mn bs ns nc s
                            unfold rd_
                            rw [ss_cg (t := mo_ (mr_ (my_ σ) r)) (t' := mo_ σ) rfl rfl rfl rfl, cs_cg (t := mo_ (mr_ (my_ σ) r)) (t' := mo_ σ) rfl rfl rfl rfl rfl]
                          have e2 : ft_ (mo_ (mr_ (my_ σ) r)) = ft_ (mo_ σ) := ft_cg rfl rfl
                          rw [e1, e2]
                          have ih := ih (rd_ (mo_ σ) (ft_ (mo_ σ)) (ct2_ (mo_ σ) (σ 28 7)) (fb_ (mo_ σ) (σ 28 7) (σ 44)) (σ 28 2) (σ 28 7) r) ⟨rd_B hw hB, rd_fl, ?_⟩
                          · refine qv_st (σ' := mr_ (my_ σ) (rd_ (mo_ σ) (ft_ (mo_ σ)) (ct2_ (mo_ σ) (σ 28 7)) (fb_ (mo_ σ) (σ 28 7) (σ 44)) (σ 28 2) (σ 28 7) r)) rfl ?_
                            refine qv_stk (st' := [.int (nI (rd_ (mo_ σ) (ft_ (mo_ σ)) (ct2_ (mo_ σ) (σ 28 7)) (fb_ (mo_ σ) (σ 28 7) (σ 44)) (σ 28 2) (σ 28 7) r).2.2)]) rfl ?_
                            refine qv_istore_n (L' := [(1, _), (2, _), (0, _)]) F d_M_solve_166 (by decide) rfl ?_
                            refine qv_sub (L' := [(2, _), (1, _), (0, _)]) [1, 0, 2] rfl ?_
                            refine qv_iinc (L' := [(2, _), (1, _), (0, _)]) F _ d_M_solve_167 0 rfl (ii_1 _) (by decide) rfl ?_
                            refine qv_goto F d_M_solve_170 rfl ?_
                            exact ih
                          · have e3 : 1200 - i = (1200 - (i + 1)) + 1 := by omega
                            rw [e3] at hS
                            rw [← hS]
                            exact (if_neg hne).symm
                  ·
                    exact absurd hb (by decide)
                · intro i g hi hg0 ih
                  refine qv_iload_n F d_M_solve_128 0 rfl ?_
                  refine qv_bipush F (nI 16) d_M_solve_129 bic_16 ?_
                  refine qv_icmpge F d_M_solve_131 rfl (by omega) (by omega) (fun hb => ?_) (fun hb => ?_)
                  ·
                    omega
                  ·
                    refine qv_aload_n F d_M_solve_134 1 rfl ?_
                    refine g_M_65 F d_M_solve_135 ?_
                    refine qv_iload_n F d_M_solve_138 0 rfl ?_
                    refine qv_iconst F (nI 0) d_M_solve_139 ic_0 ?_
                    refine sv_47 F hi d_M_solve_140 ?_
                    refine qv_st (us_ua (ua (my_ σ) 46 fun _ => 0) 47 g i 0) ?_
                    refine qv_iinc (L' := [(1, _), (0, _)]) F _ d_M_solve_141 0 rfl (ii_1 _) (by decide) rfl ?_
                    refine qv_goto F d_M_solve_144 rfl ?_
                    refine ih _ (fun k hk => ?_)
                    by_cases e : k = i
                    · subst e; exact up_eq _ _ _
                    · rw [up_ne e]; exact hg0 k (by omega)
              ·
                exact absurd hb (by decide)
            · intro i g hi hg0 ih
              refine qv_iload_n F d_M_solve_106 0 rfl ?_
              refine qv_sipush F (nI 128) d_M_solve_107 sic_128 ?_
              refine qv_icmpge F d_M_solve_110 rfl (by omega) (by omega) (fun hb => ?_) (fun hb => ?_)
              ·
                omega
              ·
                refine qv_aload_n F d_M_solve_113 1 rfl ?_
                refine g_M_62 F d_M_solve_114 ?_
                refine qv_iload_n F d_M_solve_117 0 rfl ?_
                refine qv_iconst F (nI 0) d_M_solve_118 ic_0 ?_
                refine sv_46 F hi d_M_solve_119 ?_
                refine qv_st (us_ua (my_ σ) 46 g i 0) ?_
                refine qv_iinc (L' := [(1, _), (0, _)]) F _ d_M_solve_120 0 rfl (ii_1 _) (by decide) rfl ?_
                refine qv_goto F d_M_solve_123 rfl ?_
                refine ih _ (fun k hk => ?_)
                by_cases e : k = i
                · subst e; exact up_eq _ _ _
                · rw [up_ne e]; exact hg0 k (by omega)
          ·
            exact absurd (show σ 28 7 < σ 28 7 from hb) (by omega)
        · intro i a hi hI ih
          obtain ⟨b, sc⟩ := a
          have hI1 : ∀ k, b k = if k < i then ba_ (mo_ σ) (cr_ (mo_ σ) (σ 28 7)) (so_ (mo_ σ) (cr_ (mo_ σ) (σ 28 7)) (σ 28 7)) k else σ 44 k := hI.1
          have hI2 : ∀ k, sc k = if k < i then σ 35 k else σ 45 k := hI.2
          have hst : ∀ x, x = ba_ (mo_ σ) (cr_ (mo_ σ) (σ 28 7)) (so_ (mo_ σ) (cr_ (mo_ σ) (σ 28 7)) (σ 28 7)) i → (∀ k, va_up b i x k = if k < i + 1 then ba_ (mo_ σ) (cr_ (mo_ σ) (σ 28 7)) (so_ (mo_ σ) (cr_ (mo_ σ) (σ 28 7)) (σ 28 7)) k else σ 44 k) ∧ ∀ k, va_up sc i (σ 35 i) k = if k < i + 1 then σ 35 k else σ 45 k := by
            intro x hx
            refine ⟨fun k => ?_, fun k => ?_⟩
            · by_cases e : k = i
              · subst e; rw [up_eq, if_pos (by omega), hx]
              · rw [up_ne e, hI1 k]
                by_cases e2 : k < i
                · rw [if_pos e2, if_pos (by omega)]
                · rw [if_neg e2, if_neg (by omega)]
            · by_cases e : k = i
              · subst e; rw [up_eq, if_pos (by omega)]
              · rw [up_ne e, hI2 k]
                by_cases e2 : k < i
                · rw [if_pos e2, if_pos (by omega)]
                · rw [if_neg e2, if_neg (by omega)]
          have hso : ∀ a, a < 4 → S5_ (mo_ σ) (cr_ (mo_ σ) (σ 28 7)) (σ 28 7) a = so_ (mo_ σ) (cr_ (mo_ σ) (σ 28 7)) (σ 28 7) a := fun a ha => S5_so hok hg ha
          refine qv_iload_n F d_M_solve_41 0 rfl ?_
          refine qv_aload_n F d_M_solve_42 1 rfl ?_
          refine g_M_86 F d_M_solve_43 ?_
          refine qv_icmpge F d_M_solve_46 rfl (by omega) (show σ 28 7 < 2 ^ 31 by omega) (fun hb => ?_) (fun hb => ?_)
          ·
            exact absurd (show σ 28 7 ≤ i from hb) (by omega)
          ·
            refine qv_aload_n F d_M_solve_49 1 rfl ?_
            refine g_M_56 F d_M_solve_50 ?_
            refine qv_iload_n F d_M_solve_53 0 rfl ?_
            refine qv_aload_n F d_M_solve_54 1 rfl ?_
            refine qv_iload_n F d_M_solve_55 0 rfl ?_
            refine i_M_92i F (c_M_isOuter l X (my0_ σ b sc) (cr_ (mo_ σ) (σ 28 7)) i (by omega) h11 h12 rfl) (by decide) (Nat.le_of_ble_eq_true rfl) d_M_solve_56 ?_
            refine qv_ifeqB F d_M_solve_59 rfl (fun hb => ?_) (fun hb => ?_)
            ·
              have hb : ou_ (mo_ σ) (cr_ (mo_ σ) (σ 28 7)) i = false := hb
              refine qv_iconst F (nI 0) d_M_solve_76 ic_0 ?_
              refine sv_44 F (show i < 8 by omega) d_M_solve_77 ?_
              refine qv_aload_n F d_M_solve_78 1 rfl ?_
              refine g_M_59 F d_M_solve_79 ?_
              refine qv_iload_n F d_M_solve_82 0 rfl ?_
              refine qv_aload_n F d_M_solve_83 1 rfl ?_
              refine g_M_28 F d_M_solve_84 ?_
              refine qv_iload_n F d_M_solve_87 0 rfl ?_
              refine ld_35 F (show i < 8 by omega) d_M_solve_88 ?_
              refine sv_45 F (show i < 8 by omega) d_M_solve_89 ?_
              refine qv_st (my_b σ b sc i 0 (σ 35 i)) ?_
              refine qv_iinc (L' := [(1, _), (0, _)]) F _ d_M_solve_90 0 rfl (ii_1 _) (by decide) rfl ?_
              refine qv_goto F d_M_solve_93 rfl ?_
              exact ih (va_up b i 0, va_up sc i (σ 35 i)) (hst 0 (by unfold ba_; rw [if_neg (by rw [hb]; decide)]))
            ·
              have hb : ou_ (mo_ σ) (cr_ (mo_ σ) (σ 28 7)) i = true := hb
              have ebr : br_ (mo_ (my0_ σ b sc)) (cr_ (mo_ σ) (σ 28 7)) (my0_ σ b sc 42) (σ 36 i) i = ba_ (mo_ σ) (cr_ (mo_ σ) (σ 28 7)) (so_ (mo_ σ) (cr_ (mo_ σ) (σ 28 7)) (σ 28 7)) i := by
                unfold ba_
                rw [if_pos hb, br_cg (t := mo_ (my0_ σ b sc)) (t' := mo_ σ) rfl rfl]
                exact br_fe h11 hso i
              refine qv_aload_n F d_M_solve_62 1 rfl ?_
              refine qv_aload_n F d_M_solve_63 1 rfl ?_
              refine g_M_31 F d_M_solve_64 ?_
              refine qv_iload_n F d_M_solve_67 0 rfl ?_
              refine ld_36 F (show i < 8 by omega) d_M_solve_68 ?_
              refine qv_iload_n F d_M_solve_69 0 rfl ?_
              refine i_M_96i F (c_M_brought l X (my0_ σ b sc) (cr_ (mo_ σ) (σ 28 7)) (σ 36 i) i (by omega) (h12 i) h11 h12 rfl) (by decide) (Nat.le_of_ble_eq_true rfl) d_M_solve_70 ?_
              refine qv_goto F d_M_solve_73 rfl ?_
              refine sv_44 F (show i < 8 by omega) d_M_solve_77 ?_
              refine qv_aload_n F d_M_solve_78 1 rfl ?_
              refine g_M_59 F d_M_solve_79 ?_
              refine qv_iload_n F d_M_solve_82 0 rfl ?_
              refine qv_aload_n F d_M_solve_83 1 rfl ?_
              refine g_M_28 F d_M_solve_84 ?_
              refine qv_iload_n F d_M_solve_87 0 rfl ?_
              refine ld_35 F (show i < 8 by omega) d_M_solve_88 ?_
              refine sv_45 F (show i < 8 by omega) d_M_solve_89 ?_
              refine qv_st (my_b σ b sc i _ (σ 35 i)) ?_
              refine qv_iinc (L' := [(1, _), (0, _)]) F _ d_M_solve_90 0 rfl (ii_1 _) (by decide) rfl ?_
              refine qv_goto F d_M_solve_93 rfl ?_
              exact ih (va_up b i _, va_up sc i (σ 35 i)) (hst _ ebr)
      ·
        exact absurd hb (by decide)
    · intro i g hi hI ih
      refine qv_iload_n F d_M_solve_16 0 rfl ?_
      refine qv_iconst F (nI 4) d_M_solve_17 ic_4 ?_
      refine qv_icmpge F d_M_solve_18 rfl (by omega) (by omega) (fun hb => ?_) (fun hb => ?_)
      ·
        omega
      ·
        refine qv_aload_n F d_M_solve_21 1 rfl ?_
        refine g_M_53 F d_M_solve_22 ?_
        refine qv_iload_n F d_M_solve_25 0 rfl ?_
        refine qv_aload_n F d_M_solve_26 1 rfl ?_
        refine g_M_50 F d_M_solve_27 ?_
        refine qv_iload_n F d_M_solve_30 0 rfl ?_
        refine ld_42 F hi d_M_solve_31 ?_
        refine sv_43 F hi d_M_solve_32 ?_
        refine qv_st (us_ua (mn2_ σ) 43 g i _) ?_
        refine qv_iinc (L' := [(1, _), (0, _)]) F _ d_M_solve_33 0 rfl (ii_1 _) (by decide) rfl ?_
        refine qv_goto F d_M_solve_36 rfl ?_
        refine ih _ (fun k hk => ?_)
        by_cases e : k = i
        · subst e; rw [up_eq]; rfl
        · rw [up_ne e]; exact hI k (by omega)
  ·
    have hg : gM_ σ = false := hb
    rw [hg]
    refine qv_bipush F (-3) d_M_solve_11 bic_m3 ?_
    exact qv_iret F hr hlk d_M_solve_13 (ei_of rfl rfl)
set_option maxRecDepth 100000 in
set_option maxHeartbeats 4000000 in
theorem c_M_size (l : Launch) (X : wX) (σ : sg) (x : Int32) (hc : σ 28 7 ≤ 8) (h13 : ∀ k, σ 37 k ≤ 4) (h47 : ∀ k, σ 47 k < 256) : mt_ l X y_M_size w_M_size 1 [.ref (adr X 28), .int x] σ (ei_ (sz_ (σ 28 2) (σ 28 7) (sm_ (σ 37) (σ 28 7)) (sp_ (σ 47) 16) (σ 28 22) x) σ) := by
  refine mt_of (own := R_M) rfl pl_M (Nat.le_of_ble_eq_true rfl) ?_
  intro zp ze zs zm za zb zt zc F hr hlk
  refine qv_sub (L' := [(0, _), (1, _)]) [0, 1] rfl ?_
  refine qv_iconst F (nI 0) d_M_size_0 ic_0 ?_
  refine qv_istore_n (L' := [(2, _), (0, _), (1, _)]) F d_M_size_1 (by decide) rfl ?_
  refine qv_iload_n F d_M_size_2 2 rfl ?_
  cases hx : wi_ x 5 with
  | false =>
    refine qv_tswI F d_M_size_3 (wi_out hx) (tgt := 106) rfl ?_
    refine qv_iconst F (-1) d_M_size_106 ic_m1 ?_
    exact qv_iret F hr hlk d_M_size_107 (ei_of (by unfold sz_; rw [hx]; rfl) rfl)
  | true =>
    obtain ⟨j, hj, rfl⟩ := wi_t (by decide) hx
    rcases (by omega : j = 0 ∨ j = 1 ∨ j = 2 ∨ j = 3 ∨ j = 4) with rfl | rfl | rfl | rfl | rfl
    ·
      refine qv_tsw F d_M_size_3 (by decide) (by decide) (by decide) (off := 33) (tgt := 36) rfl rfl ?_
      refine qv_aload_n F d_M_size_36 1 rfl ?_
      refine g_M_75 F d_M_size_37 ?_
      exact qv_iret F hr hlk d_M_size_40 (ei_of (by unfold sz_; rw [hx, tn_nI (by decide)]; rfl) rfl)
    ·
      refine qv_tsw F d_M_size_3 (by decide) (by decide) (by decide) (off := 38) (tgt := 41) rfl rfl ?_
      refine qv_aload_n F d_M_size_41 1 rfl ?_
      refine g_M_86 F d_M_size_42 ?_
      exact qv_iret F hr hlk d_M_size_45 (ei_of (by unfold sz_; rw [hx, tn_nI (by decide)]; rfl) rfl)
    ·
      refine qv_tsw F d_M_size_3 (by decide) (by decide) (by decide) (off := 43) (tgt := 46) rfl rfl ?_
      refine qv_iconst F (nI 0) d_M_size_46 ic_0 ?_
      refine qv_istore_n (L' := [(3, _), (2, _), (0, _), (1, _)]) F d_M_size_47 (by decide) rfl ?_
      have lp := lu_up (fun i (_ : Unit) => vv_ zp l ze (rr_ 1) zs zm za zb zt zc (MQ zb (mq_ X (ei_ (sz_ (σ 28 2) (σ 28 7) (sm_ (σ 37) (σ 28 7)) (sp_ (σ 47) 16) (σ 28 22) (nI 2)) σ)) za zs 0 0 (aw_ X)) X 4 [(3, .int (nI i)), (2, .int (nI (sm_ (σ 37) i))), (0, .ref (adr X 28)), (1, .int (nI 2))] σ 48 []) (fun _ _ => True) (σ 28 7) ?_ ?_ 0 () (Nat.zero_le _) trivial
      · exact lp
      · intro _ _
        refine qv_iload_n F d_M_size_48 0 rfl ?_
        refine qv_aload_n F d_M_size_49 2 rfl ?_
        refine g_M_86 F d_M_size_50 ?_
        refine qv_icmpge F d_M_size_53 rfl (by omega) (by omega) (fun hb => ?_) (fun hb => ?_)
        ·
          refine qv_iload_n F d_M_size_71 1 rfl ?_
          exact qv_iret F hr hlk d_M_size_72 (ei_of (by unfold sz_; rw [hx, tn_nI (by decide)]; rfl) rfl)
        ·
          omega
      · intro i _ hi _ ih
        refine qv_iload_n F d_M_size_48 0 rfl ?_
        refine qv_aload_n F d_M_size_49 2 rfl ?_
        refine g_M_86 F d_M_size_50 ?_
        refine qv_icmpge F d_M_size_53 rfl (by omega) (by omega) (fun hb => ?_) (fun hb => ?_)
        ·
          omega
        ·
          refine qv_iload_n F d_M_size_56 1 rfl ?_
          refine qv_aload_n F d_M_size_57 2 rfl ?_
          refine g_M_34 F d_M_size_58 ?_
          refine qv_iload_n F d_M_size_61 0 rfl ?_
          refine ld_37 F (by omega) d_M_size_62 ?_
          refine qv_iadd F d_M_size_63 ?_
          refine qv_istore_n (L' := [(2, _), (3, _), (0, _), (1, _)]) F d_M_size_64 (by decide) rfl ?_
          refine qv_sub (L' := [(3, _), (2, _), (0, _), (1, _)]) [1, 0, 2, 3] rfl ?_
          refine qv_iinc (L' := [(3, _), (2, _), (0, _), (1, _)]) F _ d_M_size_65 0 rfl (ii_1 _) (by decide) rfl ?_
          refine qv_goto F d_M_size_68 rfl ?_
          exact ih () trivial
    ·
      refine qv_tsw F d_M_size_3 (by decide) (by decide) (by decide) (off := 70) (tgt := 73) rfl rfl ?_
      refine qv_iconst F (nI 0) d_M_size_73 ic_0 ?_
      refine qv_istore_n (L' := [(3, _), (2, _), (0, _), (1, _)]) F d_M_size_74 (by decide) rfl ?_
      have lp := lu_up (fun i (_ : Unit) => vv_ zp l ze (rr_ 1) zs zm za zb zt zc (MQ zb (mq_ X (ei_ (sz_ (σ 28 2) (σ 28 7) (sm_ (σ 37) (σ 28 7)) (sp_ (σ 47) 16) (σ 28 22) (nI 3)) σ)) za zs 0 0 (aw_ X)) X 4 [(3, .int (nI i)), (2, .int (nI (sp_ (σ 47) i))), (0, .ref (adr X 28)), (1, .int (nI 3))] σ 75 []) (fun _ _ => True) 16 ?_ ?_ 0 () (Nat.zero_le _) trivial
      · exact lp
      · intro _ _
        refine qv_iload_n F d_M_size_75 0 rfl ?_
        refine qv_bipush F (nI 16) d_M_size_76 bic_16 ?_
        refine qv_icmpge F d_M_size_78 rfl (by decide) (by decide) (fun hb => ?_) (fun hb => ?_)
        ·
          refine qv_iload_n F d_M_size_99 1 rfl ?_
          exact qv_iret F hr hlk d_M_size_100 (ei_of (by unfold sz_; rw [hx, tn_nI (by decide)]; rfl) rfl)
        ·
          exact absurd hb (by decide)
      · intro i _ hi _ ih
        refine qv_iload_n F d_M_size_75 0 rfl ?_
        refine qv_bipush F (nI 16) d_M_size_76 bic_16 ?_
        refine qv_icmpge F d_M_size_78 rfl (by omega) (by omega) (fun hb => ?_) (fun hb => ?_)
        ·
          omega
        ·
          refine qv_iload_n F d_M_size_81 1 rfl ?_
          refine qv_aload_n F d_M_size_82 2 rfl ?_
          refine g_M_65 F d_M_size_83 ?_
          refine qv_iload_n F d_M_size_86 0 rfl ?_
          refine ld_47 F hi d_M_size_87 ?_
          refine i_M_133i F (c_M_bits l X σ (σ 47 i) (h47 i)) (by decide) (Nat.le_of_ble_eq_true rfl) d_M_size_88 ?_
          refine qv_iadd F d_M_size_91 ?_
          refine qv_istore_n (L' := [(2, _), (3, _), (0, _), (1, _)]) F d_M_size_92 (by decide) rfl ?_
          refine qv_sub (L' := [(3, _), (2, _), (0, _), (1, _)]) [1, 0, 2, 3] rfl ?_
          refine qv_iinc (L' := [(3, _), (2, _), (0, _), (1, _)]) F _ d_M_size_93 0 rfl (ii_1 _) (by decide) rfl ?_
          refine qv_goto F d_M_size_96 rfl ?_
          exact ih () trivial
    ·
      refine qv_tsw F d_M_size_3 (by decide) (by decide) (by decide) (off := 98) (tgt := 101) rfl rfl ?_
      refine qv_aload_n F d_M_size_101 1 rfl ?_
      refine g_M_139 F d_M_size_102 ?_
      exact qv_iret F hr hlk d_M_size_105 (ei_of (by unfold sz_; rw [hx, tn_nI (by decide)]; rfl) rfl)

