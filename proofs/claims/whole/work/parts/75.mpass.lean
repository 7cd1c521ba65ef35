/-! the reference: pass, groups, counts -/
def apM_ (σ : sg) (k v w b : Nat) : sg := us (us (us (us σ 38 (4 * k + σ 37 k) v) 39 (4 * k + σ 37 k) w) 40 (4 * k + σ 37 k) b) 37 k (σ 37 k + 1)
set_option maxRecDepth 100000 in
set_option maxHeartbeats 4000000 in
theorem c_M_pass (l : Launch) (X : wX) (σ : sg) (x y z : Int32) (b : Bool) (hs : σ 28 7 ≤ 8) (h11 : ∀ k, σ 35 k < 4) (h12 : ∀ k, σ 36 k < 4) (h13 : ∀ k, σ 37 k ≤ 4) : mt_ l X y_M_pass w_M_pass 1 [.ref (adr X 28), .int x, .int y, .int z, .int (nI b.toNat)] σ (ei_ (pn_ (mp_ (mo_ σ) (σ 28 7) x y z b) (σ 37 (tn_ x))) (if mp_ (mo_ σ) (σ 28 7) x y z b = true then (if σ 37 (tn_ x) < 4 then apM_ σ (tn_ x) (tn_ y) (tn_ z) b.toNat else σ) else σ)) := by
  refine mt_of (own := R_M) rfl pl_M (Nat.le_of_ble_eq_true rfl) ?_
  intro zp ze zs zm za zb zt zc F hr hlk
  refine qv_sub (L' := [(0, _), (1, _), (2, _), (3, _), (4, _)]) [0, 1, 2, 3, 4] rfl ?_
  refine qv_iload_n F d_M_pass_0 1 rfl ?_
  refine qv_aload_n F d_M_pass_1 0 rfl ?_
  refine g_M_86 F d_M_pass_2 ?_
  refine qv_iconst F (nI 1) d_M_pass_5 ic_1 ?_
  refine qv_isubI F d_M_pass_6 ?_
  refine i_M_71i F (c_M_in l X σ x (nI (σ 28 7) - nI 1) (σ 28 7) (by rw [pk_sub_toInt (by omega) (by decide)]; rfl)) (by decide) (Nat.le_of_ble_eq_true rfl) d_M_pass_7 ?_
  refine qv_ifeqB F d_M_pass_10 rfl (fun hb => ?_) (fun hb => ?_)
  ·
    have hm : mp_ (mo_ σ) (σ 28 7) x y z b = false := by unfold mp_; rw [hb]; rfl
    rw [hm]
    refine qv_iconst F (-1) d_M_pass_31 ic_m1 ?_
    exact qv_iret F hr hlk d_M_pass_32 (ei_of rfl rfl)
  ·
    have hx := hb
    refine qv_iload_n F d_M_pass_13 2 rfl ?_
    refine qv_bipush F (nI 15) d_M_pass_14 bic_15 ?_
    refine i_M_71i F (c_M_in l X σ y (nI 15) 16 (by decide)) (by decide) (Nat.le_of_ble_eq_true rfl) d_M_pass_16 ?_
    refine qv_ifeqB F d_M_pass_19 rfl (fun hb => ?_) (fun hb => ?_)
    ·
      have hm : mp_ (mo_ σ) (σ 28 7) x y z b = false := by unfold mp_ of_; rw [hb]; cases b <;> cases wi_ x (σ 28 7) <;> cases (wi_ z 16) <;> simp
      rw [hm]
      refine qv_iconst F (-1) d_M_pass_31 ic_m1 ?_
      exact qv_iret F hr hlk d_M_pass_32 (ei_of rfl rfl)
    ·
      have hy := hb
      refine qv_iload_n F d_M_pass_22 3 rfl ?_
      refine qv_bipush F (nI 15) d_M_pass_23 bic_15 ?_
      refine i_M_71i F (c_M_in l X σ z (nI 15) 16 (by decide)) (by decide) (Nat.le_of_ble_eq_true rfl) d_M_pass_25 ?_
      refine qv_ifneB F d_M_pass_28 rfl (fun hb => ?_) (fun hb => ?_)
      ·
        have hz := hb
        obtain ⟨j, hj, rfl⟩ := wi_t (by omega) hx
        obtain ⟨k, hk, rfl⟩ := wi_t (by decide) hy
        obtain ⟨i, hi, rfl⟩ := wi_t (by decide) hz
        have q11 := h11 j
        have q12 := h12 j
        have q13 := h13 j
        have ej : tn_ (nI j) = j := tn_nI (by omega)
        have ek : tn_ (nI k) = k := tn_nI (by omega)
        have ei : tn_ (nI i) = i := tn_nI (by omega)
        cases b with
        | false =>
          have em : mp_ (mo_ σ) (σ 28 7) (nI j) (nI k) (nI i) false = (decide (k / 4 = σ 36 j) && decide (i / 4 = σ 35 j)) := by
            unfold mp_ of_
            rw [hx, hy, hz, ej, ek, ei]
            rfl
          rw [em, ej, ek, ei]
          refine qv_iload F d_M_pass_33 4 rfl ?_
          refine qv_ifeqB (b := false) F d_M_pass_35 (tgt := 47) rfl (fun _ => ?_) (fun q => by cases q)
          refine qv_aload_n F d_M_pass_47 0 rfl ?_
          refine g_M_28 F d_M_pass_48 ?_
          refine qv_iload_n F d_M_pass_51 1 rfl ?_
          refine ld_35 F (by omega) d_M_pass_52 ?_
          refine qv_istore (L' := [(5, _), (0, _), (1, _), (2, _), (3, _), (4, _)]) F d_M_pass_53 (by decide) rfl ?_
          refine qv_iload F d_M_pass_55 5 rfl ?_
          refine qv_ifeqB (b := false) F d_M_pass_57 (tgt := 69) rfl (fun _ => ?_) (fun q => by cases q)
          refine qv_aload_n F d_M_pass_69 1 rfl ?_
          refine g_M_31 F d_M_pass_70 ?_
          refine qv_iload_n F d_M_pass_73 2 rfl ?_
          refine ld_36 F (by omega) d_M_pass_74 ?_
          refine qv_istore (L' := [(6, _), (5, _), (0, _), (1, _), (2, _), (3, _), (4, _)]) F d_M_pass_75 (by decide) rfl ?_
          refine qv_iload_n F d_M_pass_77 5 rfl ?_
          refine qv_iconst F (nI 4) d_M_pass_78 ic_4 ?_
          refine qv_idiv F d_M_pass_79 (by omega) (by decide) (by decide) ?_
          refine qv_iload F d_M_pass_80 1 rfl ?_
          refine qv_icmpne F d_M_pass_82 rfl (by omega) (by omega) (fun hb => ?_) (fun hb => ?_)
          ·
            rw [decide_eq_false hb, Bool.and_false]
            refine qv_iconst F (-1) d_M_pass_93 ic_m1 ?_
            exact qv_iret F hr hlk d_M_pass_94 (ei_of rfl rfl)
          ·
            have h1 := hb
            refine qv_iload_n F d_M_pass_85 4 rfl ?_
            refine qv_iconst F (nI 4) d_M_pass_86 ic_4 ?_
            refine qv_idiv F d_M_pass_87 (by omega) (by decide) (by decide) ?_
            refine qv_iload F d_M_pass_88 0 rfl ?_
            refine qv_icmpeq F d_M_pass_90 rfl (by omega) (by omega) (fun hb => ?_) (fun hb => ?_)
            ·
              rw [decide_eq_true hb, decide_eq_true h1]
              refine qv_aload_n F d_M_pass_95 2 rfl ?_
              refine g_M_34 F d_M_pass_96 ?_
              refine qv_iload_n F d_M_pass_99 3 rfl ?_
              refine ld_37 F (by omega) d_M_pass_100 ?_
              refine qv_iconst F (nI 4) d_M_pass_101 ic_4 ?_
              refine qv_icmpne F d_M_pass_102 rfl (by omega) (by omega) (fun hb => ?_) (fun hb => ?_)
              ·
                have hlt : σ 37 j < 4 := by omega
                unfold pn_
                rw [if_pos (show (true && true) = true from rfl), if_pos (show (true && true) = true from rfl), if_pos hlt, if_pos hlt]
                refine qv_iconst F (nI 4) d_M_pass_108 ic_4 ?_
                refine qv_iload_n F d_M_pass_109 3 rfl ?_
                refine qv_imul F d_M_pass_110 ?_
                refine qv_aload_n F d_M_pass_111 2 rfl ?_
                refine g_M_34 F d_M_pass_112 ?_
                refine qv_iload_n F d_M_pass_115 3 rfl ?_
                refine ld_37 F (by omega) d_M_pass_116 ?_
                refine qv_iadd F d_M_pass_117 ?_
                refine qv_istore (L' := [(7, _), (6, _), (5, _), (0, _), (1, _), (2, _), (3, _), (4, _)]) F d_M_pass_118 (by decide) rfl ?_
                refine qv_aload_n F d_M_pass_120 3 rfl ?_
                refine g_M_37 F d_M_pass_121 ?_
                refine qv_iload F d_M_pass_124 0 rfl ?_
                refine qv_iload_n F d_M_pass_126 5 rfl ?_
                refine sv_38 F (by omega) d_M_pass_127 ?_
                refine qv_aload_n F d_M_pass_128 3 rfl ?_
                refine g_M_40 F d_M_pass_129 ?_
                refine qv_iload F d_M_pass_132 0 rfl ?_
                refine qv_iload_n F d_M_pass_134 6 rfl ?_
                refine sv_39 F (by omega) d_M_pass_135 ?_
                refine qv_aload_n F d_M_pass_136 3 rfl ?_
                refine g_M_43 F d_M_pass_137 ?_
                refine qv_iload F d_M_pass_140 0 rfl ?_
                refine qv_iload F d_M_pass_142 7 rfl ?_
                refine sv_40 F (by omega) (Or.inl rfl) d_M_pass_144 ?_
                refine qv_aload_n F d_M_pass_145 3 rfl ?_
                refine g_M_34 F d_M_pass_146 ?_
                refine qv_iload_n F d_M_pass_149 4 rfl ?_
                refine qv_dup2 F d_M_pass_150 rfl rfl ?_
                refine ld_37 F (by omega) d_M_pass_151 ?_
                refine qv_iconst F (nI 1) d_M_pass_152 ic_1 ?_
                refine qv_iadd F d_M_pass_153 ?_
                refine sv_37 F (by omega) d_M_pass_154 ?_
                refine qv_aload_n F d_M_pass_155 3 rfl ?_
                refine g_M_34 F d_M_pass_156 ?_
                refine qv_iload_n F d_M_pass_159 4 rfl ?_
                refine ld_37 F (by omega) d_M_pass_160 ?_
                exact qv_iret F hr hlk d_M_pass_161 (ei_of (by rw [us_eq, up_eq]; rfl) rfl)
              ·
                have hge : ¬ σ 37 j < 4 := by omega
                unfold pn_
                rw [if_pos (show (true && true) = true from rfl), if_pos (show (true && true) = true from rfl), if_neg hge, if_neg hge]
                refine qv_bipush F (-2) d_M_pass_105 bic_m2 ?_
                exact qv_iret F hr hlk d_M_pass_107 (ei_of rfl rfl)
            ·
              rw [decide_eq_false hb, Bool.false_and]
              refine qv_iconst F (-1) d_M_pass_93 ic_m1 ?_
              exact qv_iret F hr hlk d_M_pass_94 (ei_of rfl rfl)
        | true =>
          have em : mp_ (mo_ σ) (σ 28 7) (nI j) (nI k) (nI i) true = (decide (k / 4 = σ 35 j) && decide (i / 4 = σ 36 j)) := by
            unfold mp_ of_
            rw [hx, hy, hz, ej, ek, ei]
            rfl
          rw [em, ej, ek, ei]
          refine qv_iload F d_M_pass_33 4 rfl ?_
          refine qv_ifeqB (b := true) F d_M_pass_35 (tgt := 47) rfl (fun q => by cases q) (fun _ => ?_)
          refine qv_aload_n F d_M_pass_38 0 rfl ?_
          refine g_M_31 F d_M_pass_39 ?_
          refine qv_iload_n F d_M_pass_42 1 rfl ?_
          refine ld_36 F (by omega) d_M_pass_43 ?_
          refine qv_goto F d_M_pass_44 rfl ?_
          refine qv_istore (L' := [(5, _), (0, _), (1, _), (2, _), (3, _), (4, _)]) F d_M_pass_53 (by decide) rfl ?_
          refine qv_iload F d_M_pass_55 5 rfl ?_
          refine qv_ifeqB (b := true) F d_M_pass_57 (tgt := 69) rfl (fun q => by cases q) (fun _ => ?_)
          refine qv_aload_n F d_M_pass_60 1 rfl ?_
          refine g_M_28 F d_M_pass_61 ?_
          refine qv_iload_n F d_M_pass_64 2 rfl ?_
          refine ld_35 F (by omega) d_M_pass_65 ?_
          refine qv_goto F d_M_pass_66 rfl ?_
          refine qv_istore (L' := [(6, _), (5, _), (0, _), (1, _), (2, _), (3, _), (4, _)]) F d_M_pass_75 (by decide) rfl ?_
          refine qv_iload_n F d_M_pass_77 5 rfl ?_
          refine qv_iconst F (nI 4) d_M_pass_78 ic_4 ?_
          refine qv_idiv F d_M_pass_79 (by omega) (by decide) (by decide) ?_
          refine qv_iload F d_M_pass_80 1 rfl ?_
          refine qv_icmpne F d_M_pass_82 rfl (by omega) (by omega) (fun hb => ?_) (fun hb => ?_)
          ·
            rw [decide_eq_false hb, Bool.and_false]
            refine qv_iconst F (-1) d_M_pass_93 ic_m1 ?_
            exact qv_iret F hr hlk d_M_pass_94 (ei_of rfl rfl)
          ·
            have h1 := hb
            refine qv_iload_n F d_M_pass_85 4 rfl ?_
            refine qv_iconst F (nI 4) d_M_pass_86 ic_4 ?_
            refine qv_idiv F d_M_pass_87 (by omega) (by decide) (by decide) ?_
            refine qv_iload F d_M_pass_88 0 rfl ?_
            refine qv_icmpeq F d_M_pass_90 rfl (by omega) (by omega) (fun hb => ?_) (fun hb => ?_)
            ·
              rw [decide_eq_true hb, decide_eq_true h1]
              refine qv_aload_n F d_M_pass_95 2 rfl ?_
              refine g_M_34 F d_M_pass_96 ?_
              refine qv_iload_n F d_M_pass_99 3 rfl ?_
              refine ld_37 F (by omega) d_M_pass_100 ?_
              refine qv_iconst F (nI 4) d_M_pass_101 ic_4 ?_
              refine qv_icmpne F d_M_pass_102 rfl (by omega) (by omega) (fun hb => ?_) (fun hb => ?_)
              ·
                have hlt : σ 37 j < 4 := by omega
                unfold pn_
                rw [if_pos (show (true && true) = true from rfl), if_pos (show (true && true) = true from rfl), if_pos hlt, if_pos hlt]
                refine qv_iconst F (nI 4) d_M_pass_108 ic_4 ?_
                refine qv_iload_n F d_M_pass_109 3 rfl ?_
                refine qv_imul F d_M_pass_110 ?_
                refine qv_aload_n F d_M_pass_111 2 rfl ?_
                refine g_M_34 F d_M_pass_112 ?_
                refine qv_iload_n F d_M_pass_115 3 rfl ?_
                refine ld_37 F (by omega) d_M_pass_116 ?_
                refine qv_iadd F d_M_pass_117 ?_
                refine qv_istore (L' := [(7, _), (6, _), (5, _), (0, _), (1, _), (2, _), (3, _), (4, _)]) F d_M_pass_118 (by decide) rfl ?_
                refine qv_aload_n F d_M_pass_120 3 rfl ?_
                refine g_M_37 F d_M_pass_121 ?_
                refine qv_iload F d_M_pass_124 0 rfl ?_
                refine qv_iload_n F d_M_pass_126 5 rfl ?_
                refine sv_38 F (by omega) d_M_pass_127 ?_
                refine qv_aload_n F d_M_pass_128 3 rfl ?_
                refine g_M_40 F d_M_pass_129 ?_
                refine qv_iload F d_M_pass_132 0 rfl ?_
                refine qv_iload_n F d_M_pass_134 6 rfl ?_
                refine sv_39 F (by omega) d_M_pass_135 ?_
                refine qv_aload_n F d_M_pass_136 3 rfl ?_
                refine g_M_43 F d_M_pass_137 ?_
                refine qv_iload F d_M_pass_140 0 rfl ?_
                refine qv_iload F d_M_pass_142 7 rfl ?_
                refine sv_40 F (by omega) (Or.inr rfl) d_M_pass_144 ?_
                refine qv_aload_n F d_M_pass_145 3 rfl ?_
                refine g_M_34 F d_M_pass_146 ?_
                refine qv_iload_n F d_M_pass_149 4 rfl ?_
                refine qv_dup2 F d_M_pass_150 rfl rfl ?_
                refine ld_37 F (by omega) d_M_pass_151 ?_
                refine qv_iconst F (nI 1) d_M_pass_152 ic_1 ?_
                refine qv_iadd F d_M_pass_153 ?_
                refine sv_37 F (by omega) d_M_pass_154 ?_
                refine qv_aload_n F d_M_pass_155 3 rfl ?_
                refine g_M_34 F d_M_pass_156 ?_
                refine qv_iload_n F d_M_pass_159 4 rfl ?_
                refine ld_37 F (by omega) d_M_pass_160 ?_
                exact qv_iret F hr hlk d_M_pass_161 (ei_of (by rw [us_eq, up_eq]; rfl) rfl)
              ·
                have hge : ¬ σ 37 j < 4 := by omega
                unfold pn_
                rw [if_pos (show (true && true) = true from rfl), if_pos (show (true && true) = true from rfl), if_neg hge, if_neg hge]
                refine qv_bipush F (-2) d_M_pass_105 bic_m2 ?_
                exact qv_iret F hr hlk d_M_pass_107 (ei_of rfl rfl)
            ·
              rw [decide_eq_false hb, Bool.false_and]
              refine qv_iconst F (-1) d_M_pass_93 ic_m1 ?_
              exact qv_iret F hr hlk d_M_pass_94 (ei_of rfl rfl)
      ·
        have hm : mp_ (mo_ σ) (σ 28 7) x y z b = false := by unfold mp_ of_; rw [hb]; cases b <;> cases wi_ x (σ 28 7) <;> cases (wi_ y 16) <;> simp
        rw [hm]
        refine qv_iconst F (-1) d_M_pass_31 ic_m1 ?_
        exact qv_iret F hr hlk d_M_pass_32 (ei_of rfl rfl)
set_option maxRecDepth 100000 in
set_option maxHeartbeats 4000000 in
theorem c_M_group (l : Launch) (X : wX) (σ : sg) (C : rl_) (a b : Nat) (ha : a < 4) (hb0 : b < 4) (h41 : σ 41 = rch_ C) : mt_ l X y_M_group w_M_group 0 [.ref (adr X 28), .int (nI a), .int (nI b)] σ (ei_ (nI (gp_ C a b).toNat) σ) := by
  refine mt_of (own := R_M) rfl pl_M (Nat.le_of_ble_eq_true rfl) ?_
  intro zp ze zs zm za zb zt zc F hr hlk
  refine qv_sub (L' := [(0, _), (1, _), (2, _)]) [0, 1, 2] rfl ?_
  have e1 : σ 41 (4 * a + b) = (rx_ C a b).toNat := by rw [h41]; exact rch_at C hb0
  have e2 : σ 41 (4 * b + a) = (rx_ C b a).toNat := by rw [h41]; exact rch_at C ha
  rw [← rx_gp]
  refine qv_aload_n F d_M_group_0 0 rfl ?_
  refine g_M_47 F d_M_group_1 ?_
  refine qv_iconst F (nI 4) d_M_group_4 ic_4 ?_
  refine qv_iload_n F d_M_group_5 1 rfl ?_
  refine qv_imul F d_M_group_6 ?_
  refine qv_iload_n F d_M_group_7 2 rfl ?_
  refine qv_iadd F d_M_group_8 ?_
  refine ld_41 F (by omega) d_M_group_9 ?_
  rw [e1]
  refine qv_ifeqB F d_M_group_10 rfl (fun hb => ?_) (fun hb => ?_)
  ·
    refine qv_iconst F (nI 0) d_M_group_30 ic_0 ?_
    exact qv_zret F hr hlk (by first | exact Or.inl rfl | exact Or.inr rfl | exact bz_01 _) d_M_group_31 (ei_of (by rw [hb]; rfl) rfl)
  ·
    have h1 := hb
    refine qv_aload_n F d_M_group_13 0 rfl ?_
    refine g_M_47 F d_M_group_14 ?_
    refine qv_iconst F (nI 4) d_M_group_17 ic_4 ?_
    refine qv_iload_n F d_M_group_18 2 rfl ?_
    refine qv_imul F d_M_group_19 ?_
    refine qv_iload_n F d_M_group_20 1 rfl ?_
    refine qv_iadd F d_M_group_21 ?_
    refine ld_41 F (by omega) d_M_group_22 ?_
    rw [e2]
    refine qv_ifeqB F d_M_group_23 rfl (fun hb => ?_) (fun hb => ?_)
    ·
      refine qv_iconst F (nI 0) d_M_group_30 ic_0 ?_
      exact qv_zret F hr hlk (by first | exact Or.inl rfl | exact Or.inr rfl | exact bz_01 _) d_M_group_31 (ei_of (by rw [h1, hb]; rfl) rfl)
    ·
      refine qv_iconst F (nI 1) d_M_group_26 ic_1 ?_
      refine qv_goto F d_M_group_27 rfl ?_
      exact qv_zret F hr hlk (by first | exact Or.inl rfl | exact Or.inr rfl | exact bz_01 _) d_M_group_31 (ei_of (by rw [h1, hb]; rfl) rfl)
set_option maxRecDepth 100000 in
set_option maxHeartbeats 4000000 in
theorem c_M_isOuter (l : Launch) (X : wX) (σ : sg) (C : rl_) (k : Nat) (hk : k < 8) (h11 : ∀ k, σ 35 k < 4) (h12 : ∀ k, σ 36 k < 4) (h41 : σ 41 = rch_ C) : mt_ l X y_M_isOuter w_M_isOuter 1 [.ref (adr X 28), .int (nI k)] σ (ei_ (nI (ou_ (mo_ σ) C k).toNat) σ) := by
  refine mt_of (own := R_M) rfl pl_M (Nat.le_of_ble_eq_true rfl) ?_
  intro zp ze zs zm za zb zt zc F hr hlk
  refine qv_sub (L' := [(0, _), (1, _)]) [0, 1] rfl ?_
  refine qv_aload_n F d_M_isOuter_0 0 rfl ?_
  refine qv_aload_n F d_M_isOuter_1 0 rfl ?_
  refine g_M_28 F d_M_isOuter_2 ?_
  refine qv_iload_n F d_M_isOuter_5 1 rfl ?_
  refine ld_35 F (by omega) d_M_isOuter_6 ?_
  refine qv_aload_n F d_M_isOuter_7 0 rfl ?_
  refine g_M_31 F d_M_isOuter_8 ?_
  refine qv_iload_n F d_M_isOuter_11 1 rfl ?_
  refine ld_36 F (by omega) d_M_isOuter_12 ?_
  refine i_M_89i F (c_M_group l X σ C (σ 35 k) (σ 36 k) (h11 k) (h12 k) h41) (by decide) (Nat.le_of_ble_eq_true rfl) d_M_isOuter_13 ?_
  refine qv_ifneB F d_M_isOuter_16 rfl (fun hb => ?_) (fun hb => ?_)
  ·
    have hb : gp_ C (mo_ σ 11 k) (mo_ σ 12 k) = true := hb
    refine qv_iconst F (nI 0) d_M_isOuter_23 ic_0 ?_
    exact qv_zret F hr hlk (by first | exact Or.inl rfl | exact Or.inr rfl | exact bz_01 _) d_M_isOuter_24 (ei_of (by unfold ou_; rw [hb]; rfl) rfl)
  ·
    have hb : gp_ C (mo_ σ 11 k) (mo_ σ 12 k) = false := hb
    refine qv_iconst F (nI 1) d_M_isOuter_19 ic_1 ?_
    refine qv_goto F d_M_isOuter_20 rfl ?_
    exact qv_zret F hr hlk (by first | exact Or.inl rfl | exact Or.inr rfl | exact bz_01 _) d_M_isOuter_24 (ei_of (by unfold ou_; rw [hb]; rfl) rfl)
set_option maxRecDepth 100000 in
set_option maxHeartbeats 4000000 in
theorem c_M_brought (l : Launch) (X : wX) (σ : sg) (C : rl_) (mm n : Nat) (hn : n ≤ 8) (hm : mm < 4) (h11 : ∀ k, σ 35 k < 4) (h12 : ∀ k, σ 36 k < 4) (h41 : σ 41 = rch_ C) : mt_ l X y_M_brought w_M_brought 2 [.ref (adr X 28), .int (nI mm), .int (nI n)] σ (ei_ (nI (br_ (mo_ σ) C (σ 42) mm n)) σ) := by
  refine mt_of (own := R_M) rfl pl_M (Nat.le_of_ble_eq_true rfl) ?_
  intro zp ze zs zm za zb zt zc F hr hlk
  refine qv_sub (L' := [(0, _), (1, _), (2, _)]) [0, 1, 2] rfl ?_
  refine qv_iconst F (nI 0) d_M_brought_0 ic_0 ?_
  refine qv_istore_n (L' := [(3, _), (0, _), (1, _), (2, _)]) F d_M_brought_1 (by decide) rfl ?_
  refine qv_iconst F (nI 0) d_M_brought_2 ic_0 ?_
  refine qv_istore (L' := [(4, _), (3, _), (0, _), (1, _), (2, _)]) F d_M_brought_3 (by decide) rfl ?_
  have lp := lu_up (fun i (_ : Unit) => vv_ zp l ze (rr_ 2) zs zm za zb zt zc (MQ zb (mq_ X (ei_ (nI (br_ (mo_ σ) C (σ 42) mm n)) σ)) za zs 0 0 (aw_ X)) X 5 [(4, .int (nI i)), (3, .int (nI (br_ (mo_ σ) C (σ 42) mm i))), (0, .ref (adr X 28)), (1, .int (nI mm)), (2, .int (nI n))] σ 5 []) (fun _ _ => True) n ?_ ?_ 0 () (Nat.zero_le _) trivial
  · exact lp
  · intro _ _
    refine qv_iload F d_M_brought_5 0 rfl ?_
    refine qv_iload_n F d_M_brought_7 4 rfl ?_
    refine qv_icmpge F d_M_brought_8 rfl (by omega) (by omega) (fun hb => ?_) (fun hb => ?_)
    ·
      refine qv_iload_n F d_M_brought_60 1 rfl ?_
      exact qv_iret F hr hlk d_M_brought_61 (ei_of rfl rfl)
    ·
      omega
  · intro i _ hi _ ih
    have ih := ih () trivial
    have q11 := h11 i
    have e0 : br_ (mo_ σ) C (σ 42) mm (i + 1) = br_ (mo_ σ) C (σ 42) mm i + b1_ (mo_ σ) C (σ 42) mm i := rfl
    refine qv_iload F d_M_brought_5 0 rfl ?_
    refine qv_iload_n F d_M_brought_7 4 rfl ?_
    refine qv_icmpge F d_M_brought_8 rfl (by omega) (by omega) (fun hb => ?_) (fun hb => ?_)
    ·
      omega
    ·
      refine qv_iload_n F d_M_brought_11 1 rfl ?_
      refine qv_aload_n F d_M_brought_12 2 rfl ?_
      refine qv_iload F d_M_brought_13 0 rfl ?_
      refine i_M_92i F (c_M_isOuter l X σ C i (by omega) h11 h12 h41) (by decide) (Nat.le_of_ble_eq_true rfl) d_M_brought_15 ?_
      refine qv_ifeqB F d_M_brought_18 rfl (fun hb => ?_) (fun hb => ?_)
      ·
        have e1 : b1_ (mo_ σ) C (σ 42) mm i = 0 := by unfold b1_; rw [hb]; rfl
        rw [e0, e1] at ih
        refine qv_iconst F (nI 0) d_M_brought_51 ic_0 ?_
        refine qv_iadd F d_M_brought_52 ?_
        refine qv_istore_n (L' := [(3, _), (4, _), (0, _), (1, _), (2, _)]) F d_M_brought_53 (by decide) rfl ?_
        refine qv_sub (L' := [(4, _), (3, _), (0, _), (1, _), (2, _)]) [1, 0, 2, 3, 4] rfl ?_
        refine qv_iinc (L' := [(4, _), (3, _), (0, _), (1, _), (2, _)]) F _ d_M_brought_54 0 rfl (ii_1 _) (by decide) rfl ?_
        refine qv_goto F d_M_brought_57 rfl ?_
        exact ih
      ·
        have ho := hb
        refine qv_aload_n F d_M_brought_21 2 rfl ?_
        refine qv_aload_n F d_M_brought_22 2 rfl ?_
        refine g_M_31 F d_M_brought_23 ?_
        refine qv_iload F d_M_brought_26 0 rfl ?_
        refine ld_36 F (by omega) d_M_brought_28 ?_
        refine qv_iload_n F d_M_brought_29 3 rfl ?_
        refine i_M_89i F (c_M_group l X σ C (σ 36 i) mm (h12 i) hm h41) (by decide) (Nat.le_of_ble_eq_true rfl) d_M_brought_30 ?_
        refine qv_ifeqB F d_M_brought_33 rfl (fun hb => ?_) (fun hb => ?_)
        ·
          have hb : gp_ C (mo_ σ 12 i) mm = false := hb
          have e1 : b1_ (mo_ σ) C (σ 42) mm i = 0 := by unfold b1_; rw [ho, hb]; rfl
          rw [e0, e1] at ih
          refine qv_iconst F (nI 0) d_M_brought_51 ic_0 ?_
          refine qv_iadd F d_M_brought_52 ?_
          refine qv_istore_n (L' := [(3, _), (4, _), (0, _), (1, _), (2, _)]) F d_M_brought_53 (by decide) rfl ?_
          refine qv_sub (L' := [(4, _), (3, _), (0, _), (1, _), (2, _)]) [1, 0, 2, 3, 4] rfl ?_
          refine qv_iinc (L' := [(4, _), (3, _), (0, _), (1, _), (2, _)]) F _ d_M_brought_54 0 rfl (ii_1 _) (by decide) rfl ?_
          refine qv_goto F d_M_brought_57 rfl ?_
          exact ih
        ·
          have hb : gp_ C (mo_ σ 12 i) mm = true := hb
          have e1 : b1_ (mo_ σ) C (σ 42) mm i = σ 42 (σ 35 i) := by unfold b1_; rw [ho, hb]; rfl
          rw [e0, e1] at ih
          refine qv_aload_n F d_M_brought_36 2 rfl ?_
          refine g_M_50 F d_M_brought_37 ?_
          refine qv_aload_n F d_M_brought_40 2 rfl ?_
          refine g_M_28 F d_M_brought_41 ?_
          refine qv_iload F d_M_brought_44 0 rfl ?_
          refine ld_35 F (by omega) d_M_brought_46 ?_
          refine ld_42 F (by omega) d_M_brought_47 ?_
          refine qv_goto F d_M_brought_48 rfl ?_
          refine qv_iadd F d_M_brought_52 ?_
          refine qv_istore_n (L' := [(3, _), (4, _), (0, _), (1, _), (2, _)]) F d_M_brought_53 (by decide) rfl ?_
          refine qv_sub (L' := [(4, _), (3, _), (0, _), (1, _), (2, _)]) [1, 0, 2, 3, 4] rfl ?_
          refine qv_iinc (L' := [(4, _), (3, _), (0, _), (1, _), (2, _)]) F _ d_M_brought_54 0 rfl (ii_1 _) (by decide) rfl ?_
          refine qv_goto F d_M_brought_57 rfl ?_
          exact ih

