/-! diagrams -/
set_option maxRecDepth 100000 in
set_option maxHeartbeats 4000000 in
theorem c_D_findNode (l : Launch) (X : wX) (σ : sg) (z o : Nat) (hm : σ 4 5 < 512) (hz : z < 2 ^ 31) (ho : o < 2 ^ 31) (h26 : ∀ x, x < σ 4 5 → σ 26 x < 2 ^ 31) (h27 : ∀ x, x < σ 4 5 → σ 27 x < 2 ^ 31) : mt_ l X y_D_findNode w_D_findNode 0 [.ref (adr X 4), .int (nI z), .int (nI o)] σ (fun r τ => (∃ x, x < σ 4 5 ∧ σ 26 x = z ∧ σ 27 x = o ∧ r = some (.int (nI x)) ∧ τ = σ) ∨ ((∀ x, x < σ 4 5 → ¬ (σ 26 x = z ∧ σ 27 x = o)) ∧ r = some (.int (nI (σ 4 5))) ∧ τ = us (us (us σ 26 (σ 4 5) z) 27 (σ 4 5) o) 4 5 (σ 4 5 + 1))) := by
  refine mt_of (own := R_D) rfl pl_D (Nat.le_of_ble_eq_true rfl) ?_
  intro zp ze zs zm za zb zt zc F hr hlk
  refine qv_sub (L' := [(0, _), (1, _), (2, _)]) [0, 1, 2] rfl ?_
  refine qv_iconst F (nI 0) d_D_findNode_0 ic_0 ?_
  refine qv_istore_n (L' := [(3, _), (0, _), (1, _), (2, _)]) F d_D_findNode_1 (by decide) rfl ?_
  have lp := lu_up (fun i (_ : Unit) => vv_ zp l ze (rr_ 0) zs zm za zb zt zc (MQ zb (mq_ X (fun r τ => (∃ x, x < σ 4 5 ∧ σ 26 x = z ∧ σ 27 x = o ∧ r = some (.int (nI x)) ∧ τ = σ) ∨ ((∀ x, x < σ 4 5 → ¬ (σ 26 x = z ∧ σ 27 x = o)) ∧ r = some (.int (nI (σ 4 5))) ∧ τ = us (us (us σ 26 (σ 4 5) z) 27 (σ 4 5) o) 4 5 (σ 4 5 + 1)))) za zs 0 0 (aw_ X)) X 4 [(3, .int (nI i)), (0, .ref (adr X 4)), (1, .int (nI z)), (2, .int (nI o))] σ 2 []) (fun i _ => ∀ x, x < i → ¬ (σ 26 x = z ∧ σ 27 x = o)) (σ 4 5) ?_ ?_ 0 () (Nat.zero_le _) (fun x hx => by omega)
  · exact lp
  · intro _ hI
    refine qv_iload_n F d_D_findNode_2 0 rfl ?_
    refine qv_aload_n F d_D_findNode_3 1 rfl ?_
    refine g_D_28 F d_D_findNode_4 ?_
    refine qv_icmpge F d_D_findNode_7 rfl (by omega) (by omega) (fun hb => ?_) (fun hb => ?_)
    ·
      refine qv_aload_n F d_D_findNode_38 1 rfl ?_
      refine g_D_22 F d_D_findNode_39 ?_
      refine qv_aload_n F d_D_findNode_42 1 rfl ?_
      refine g_D_28 F d_D_findNode_43 ?_
      refine qv_iload_n F d_D_findNode_46 2 rfl ?_
      refine sv_26 F hm d_D_findNode_47 ?_
      refine qv_aload_n F d_D_findNode_48 1 rfl ?_
      refine g_D_25 F d_D_findNode_49 ?_
      refine qv_aload_n F d_D_findNode_52 1 rfl ?_
      refine g_D_28 F d_D_findNode_53 ?_
      refine qv_iload_n F d_D_findNode_56 3 rfl ?_
      refine sv_27 F hm d_D_findNode_57 ?_
      refine qv_aload_n F d_D_findNode_58 1 rfl ?_
      refine qv_dup F d_D_findNode_59 rfl ?_
      refine g_D_28 F d_D_findNode_60 ?_
      refine qv_iconst F (nI 1) d_D_findNode_63 ic_1 ?_
      refine qv_iadd F d_D_findNode_64 ?_
      refine p_D_28 F d_D_findNode_65 ?_
      refine qv_aload_n F d_D_findNode_68 1 rfl ?_
      refine g_D_28 F d_D_findNode_69 ?_
      refine qv_iconst F (nI 1) d_D_findNode_72 ic_1 ?_
      refine qv_isub F d_D_findNode_73 (by show 1 ≤ σ 4 5 + 1; omega) ?_
      exact qv_iret F hr hlk d_D_findNode_74 (Or.inr ⟨hI, rfl, rfl⟩)
    ·
      omega
  · intro i _ hi hI ih
    have b1 := h26 i hi
    have b2 := h27 i hi
    refine qv_iload_n F d_D_findNode_2 0 rfl ?_
    refine qv_aload_n F d_D_findNode_3 1 rfl ?_
    refine g_D_28 F d_D_findNode_4 ?_
    refine qv_icmpge F d_D_findNode_7 rfl (by omega) (by omega) (fun hb => ?_) (fun hb => ?_)
    ·
      omega
    ·
      refine qv_aload_n F d_D_findNode_10 1 rfl ?_
      refine g_D_22 F d_D_findNode_11 ?_
      refine qv_iload_n F d_D_findNode_14 0 rfl ?_
      refine ld_26 F (by omega) d_D_findNode_15 ?_
      refine qv_iload_n F d_D_findNode_16 2 rfl ?_
      refine qv_icmpne F d_D_findNode_17 rfl (by omega) (by omega) (fun hb => ?_) (fun hb => ?_)
      ·
        refine qv_iinc (L' := [(3, _), (0, _), (1, _), (2, _)]) F _ d_D_findNode_32 0 rfl (ii_1 _) (by decide) rfl ?_
        refine qv_goto F d_D_findNode_35 rfl ?_
        refine ih () (fun x hx q => ?_)
        by_cases e : x = i
        · subst e; exact hb q.1
        · exact hI x (by omega) q
      ·
        have e1 := hb
        refine qv_aload_n F d_D_findNode_20 1 rfl ?_
        refine g_D_25 F d_D_findNode_21 ?_
        refine qv_iload_n F d_D_findNode_24 0 rfl ?_
        refine ld_27 F (by omega) d_D_findNode_25 ?_
        refine qv_iload_n F d_D_findNode_26 3 rfl ?_
        refine qv_icmpne F d_D_findNode_27 rfl (by omega) (by omega) (fun hb => ?_) (fun hb => ?_)
        ·
          refine qv_iinc (L' := [(3, _), (0, _), (1, _), (2, _)]) F _ d_D_findNode_32 0 rfl (ii_1 _) (by decide) rfl ?_
          refine qv_goto F d_D_findNode_35 rfl ?_
          refine ih () (fun x hx q => ?_)
          by_cases e : x = i
          · subst e; exact hb q.2
          · exact hI x (by omega) q
        ·
          refine qv_iload_n F d_D_findNode_30 0 rfl ?_
          exact qv_iret F hr hlk d_D_findNode_31 (Or.inl ⟨i, hi, e1, hb, rfl, rfl⟩)
set_option maxRecDepth 100000 in
set_option maxHeartbeats 4000000 in
theorem c_D_joinPairs (l : Launch) (X : wX) (σ : sg) (n b : Nat) (hn : n ≤ 512) (hb0 : b + 512 < 2 ^ 31) (hF : ∀ k, k < 2 * n → σ 25 k < b) : mt_ l X y_D_joinPairs w_D_joinPairs 1 [.ref (adr X 4), .int (nI n), .int (nI b)] σ (fun r τ => ∃ (Z O G : Nat → Nat) (m : Nat), r = none ∧ τ = jt_ σ Z O m G ∧ jn_ (σ 25) b n Z O m G) := by
  refine mt_of (own := R_D) rfl pl_D (Nat.le_of_ble_eq_true rfl) ?_
  intro zp ze zs zm za zb zt zc F hr hlk
  refine qv_sub (L' := [(0, _), (1, _), (2, _)]) [0, 1, 2] rfl ?_
  refine qv_aload_n F d_D_joinPairs_0 0 rfl ?_
  refine qv_iconst F (nI 0) d_D_joinPairs_1 ic_0 ?_
  refine p_D_28 F d_D_joinPairs_2 ?_
  refine qv_iconst F (nI 0) d_D_joinPairs_5 ic_0 ?_
  refine qv_istore_n (L' := [(3, _), (0, _), (1, _), (2, _)]) F d_D_joinPairs_6 (by decide) rfl ?_
  rw [jt_0]
  have lp := lu_up (fun i (a : (Nat → Nat) × (Nat → Nat) × Nat × (Nat → Nat)) => vv_ zp l ze (rr_ 1) zs zm za zb zt zc (MQ zb (mq_ X (fun r τ => ∃ (Z O G : Nat → Nat) (m : Nat), r = none ∧ τ = jt_ σ Z O m G ∧ jn_ (σ 25) b n Z O m G)) za zs 0 0 (aw_ X)) X 6 [(3, .int (nI i)), (0, .ref (adr X 4)), (1, .int (nI n)), (2, .int (nI b))] (jt_ σ a.1 a.2.1 a.2.2.1 a.2.2.2) 7 []) (fun i a => jn_ (σ 25) b i a.1 a.2.1 a.2.2.1 a.2.2.2) n ?_ ?_ 0 (σ 26, σ 27, 0, σ 25) (Nat.zero_le _) jn_0
  · exact lp
  · intro a hI
    refine qv_iload_n F d_D_joinPairs_7 0 rfl ?_
    refine qv_iload_n F d_D_joinPairs_8 2 rfl ?_
    refine qv_icmpge F d_D_joinPairs_9 rfl (by omega) (by omega) (fun hb => ?_) (fun hb => ?_)
    ·
      exact qv_ret F hr hlk d_D_joinPairs_68 ⟨a.1, a.2.1, a.2.2.2, a.2.2.1, rfl, rfl, hI⟩
    ·
      omega
  · intro i a hi hI ih
    obtain ⟨Z, O, m, G⟩ := a
    have hI : jn_ (σ 25) b i Z O m G := hI
    have g1 : G (2 * i) = σ 25 (2 * i) := hI.1 _ (by omega)
    have g2 : G (2 * i + 1) = σ 25 (2 * i + 1) := hI.1 _ (by omega)
    have f1 := hF (2 * i) (by omega)
    have f2 := hF (2 * i + 1) (by omega)
    have hm := jn_m hI
    refine qv_iload_n F d_D_joinPairs_7 0 rfl ?_
    refine qv_iload_n F d_D_joinPairs_8 2 rfl ?_
    refine qv_icmpge F d_D_joinPairs_9 rfl (by omega) (by omega) (fun hb => ?_) (fun hb => ?_)
    ·
      omega
    ·
      refine qv_aload_n F d_D_joinPairs_12 1 rfl ?_
      refine g_D_15 F d_D_joinPairs_13 ?_
      refine qv_iconst F (nI 2) d_D_joinPairs_16 ic_2 ?_
      refine qv_iload_n F d_D_joinPairs_17 0 rfl ?_
      refine qv_imul F d_D_joinPairs_18 ?_
      refine ld_25 F (show 2 * i < 1024 by omega) d_D_joinPairs_19 ?_
      refine qv_istore (L' := [(4, _), (3, _), (0, _), (1, _), (2, _)]) F d_D_joinPairs_20 (by decide) rfl ?_
      refine qv_aload_n F d_D_joinPairs_22 2 rfl ?_
      refine g_D_15 F d_D_joinPairs_23 ?_
      refine qv_iconst F (nI 2) d_D_joinPairs_26 ic_2 ?_
      refine qv_iload_n F d_D_joinPairs_27 1 rfl ?_
      refine qv_imul F d_D_joinPairs_28 ?_
      refine qv_iconst F (nI 1) d_D_joinPairs_29 ic_1 ?_
      refine qv_iadd F d_D_joinPairs_30 ?_
      refine ld_25 F (show 2 * i + 1 < 1024 by omega) d_D_joinPairs_31 ?_
      refine qv_istore (L' := [(5, _), (4, _), (3, _), (0, _), (1, _), (2, _)]) F d_D_joinPairs_32 (by decide) rfl ?_
      refine qv_aload_n F d_D_joinPairs_34 3 rfl ?_
      refine g_D_15 F d_D_joinPairs_35 ?_
      refine qv_iload_n F d_D_joinPairs_38 2 rfl ?_
      refine qv_iload F d_D_joinPairs_39 1 rfl ?_
      refine qv_iload F d_D_joinPairs_41 0 rfl ?_
      refine qv_icmpne F d_D_joinPairs_43 rfl (show G (2 * i) < 2 ^ 31 by omega) (show G (2 * i + 1) < 2 ^ 31 by omega) (fun hb => ?_) (fun hb => ?_)
      ·
        have hne : σ 25 (2 * i) ≠ σ 25 (2 * i + 1) := by rw [← g1, ← g2]; exact hb
        have hZ : ∀ x, x < m → Z x < 2 ^ 31 ∧ O x < 2 ^ 31 := fun x hx => by
          obtain ⟨j, hj, q1, q2⟩ := hI.2.2.1 x hx
          have r1 := hF (2 * j) (by omega)
          have r2 := hF (2 * j + 1) (by omega)
          omega
        refine qv_iload_n F d_D_joinPairs_51 5 rfl ?_
        refine qv_aload_n F d_D_joinPairs_52 3 rfl ?_
        refine qv_iload F d_D_joinPairs_53 1 rfl ?_
        refine qv_iload F d_D_joinPairs_55 0 rfl ?_
        refine i_D_47p F (c_D_findNode l X (jt_ σ Z O m G) (G (2 * i)) (G (2 * i + 1)) (show m < 512 by omega) (by omega) (by omega) (fun x hx => (hZ x hx).1) (fun x hx => (hZ x hx).2)) (by decide) (Nat.le_of_ble_eq_true rfl) d_D_joinPairs_57 (fun r τ hp => ?_)
        rcases hp with ⟨x, hx, e1, e2, rfl, rfl⟩ | ⟨hno, rfl, rfl⟩
        · refine qv_stk (st' := .int (nI x) :: _) rfl ?_
          have hx : x < m := hx
          have e1 : Z x = G (2 * i) := e1
          have e2 : O x = G (2 * i + 1) := e2
          refine qv_iadd F d_D_joinPairs_60 ?_
          refine sv_25 F (show i < 1024 by omega) d_D_joinPairs_61 ?_
          refine qv_st (jt_G σ Z O m G i (b + x)) ?_
          refine qv_sub (L' := [(3, _), (0, _), (1, _), (2, _)]) [2, 3, 4, 5] rfl ?_
          refine qv_iinc (L' := [(3, _), (0, _), (1, _), (2, _)]) F _ d_D_joinPairs_62 0 rfl (ii_1 _) (by decide) rfl ?_
          refine qv_goto F d_D_joinPairs_65 rfl ?_
          exact ih (Z, O, m, va_up G i (b + x)) (jn_b hI hne hx (e1.trans g1) (e2.trans g2))
        · refine qv_stk (st' := .int (nI m) :: _) rfl ?_
          have hno : ∀ x, x < m → ¬ (Z x = G (2 * i) ∧ O x = G (2 * i + 1)) := hno
          refine qv_st (jt_N σ Z O m G (G (2 * i)) (G (2 * i + 1))) ?_
          refine qv_iadd F d_D_joinPairs_60 ?_
          refine sv_25 F (show i < 1024 by omega) d_D_joinPairs_61 ?_
          refine qv_st (jt_G σ _ _ (m + 1) G i (b + m)) ?_
          refine qv_sub (L' := [(3, _), (0, _), (1, _), (2, _)]) [2, 3, 4, 5] rfl ?_
          refine qv_iinc (L' := [(3, _), (0, _), (1, _), (2, _)]) F _ d_D_joinPairs_62 0 rfl (ii_1 _) (by decide) rfl ?_
          refine qv_goto F d_D_joinPairs_65 rfl ?_
          refine ih (va_up Z m (G (2 * i)), va_up O m (G (2 * i + 1)), m + 1, va_up G i (b + m)) ?_
          show jn_ (σ 25) b (i + 1) (va_up Z m (G (2 * i))) (va_up O m (G (2 * i + 1))) (m + 1) (va_up G i (b + m))
          rw [g1, g2] at hno ⊢
          exact jn_c hI hne hno
      ·
        have he : σ 25 (2 * i) = σ 25 (2 * i + 1) := by rw [← g1, ← g2]; exact hb
        refine qv_iload F d_D_joinPairs_46 1 rfl ?_
        refine qv_goto F d_D_joinPairs_48 rfl ?_
        refine sv_25 F (show i < 1024 by omega) d_D_joinPairs_61 ?_
        refine qv_st (jt_G σ Z O m G i (G (2 * i))) ?_
        refine qv_sub (L' := [(3, _), (0, _), (1, _), (2, _)]) [2, 3, 4, 5] rfl ?_
        refine qv_iinc (L' := [(3, _), (0, _), (1, _), (2, _)]) F _ d_D_joinPairs_62 0 rfl (ii_1 _) (by decide) rfl ?_
        refine qv_goto F d_D_joinPairs_65 rfl ?_
        refine ih (Z, O, m, va_up G i (G (2 * i))) ?_
        show jn_ (σ 25) b (i + 1) Z O m (va_up G i (G (2 * i)))
        rw [g1]
        exact jn_a hI he
theorem nm_0 {f : Nat → Nat} (n : Nat) (hf : ∀ k, k < n → f k < 2) : nm_ f (2 ^ 0) n (2 + 0) f := by
  refine ⟨fun i j hi hj => ?_, fun i hi => hf i hi⟩
  have e : (2 : Nat) ^ 0 = 1 := rfl
  rw [e]
  constructor
  · intro h k hk
    obtain rfl : k = 0 := by omega
    rw [Nat.one_mul, Nat.one_mul]
    exact h
  · intro h
    have := h 0 (by decide)
    rw [Nat.one_mul, Nat.one_mul] at this
    exact this
set_option maxRecDepth 100000 in
set_option maxHeartbeats 4000000 in
theorem c_D_countNodes (l : Launch) (X : wX) (σ : sg) (q : Nat) (hq : q ≤ 10) (hr0 : σ 4 2 = 2 ^ q) (hf : ∀ k, k < 2 ^ q → σ 25 k < 2) : mt_ l X y_D_countNodes w_D_countNodes 2 [.ref (adr X 4)] σ (fun r τ => ∃ (Z O G : Nat → Nat) (m : Nat), r = some (.int (nI (lv2_ (σ 25) q q))) ∧ τ = jt_ σ Z O m G) := by
  refine mt_of (own := R_D) rfl pl_D (Nat.le_of_ble_eq_true rfl) ?_
  intro zp ze zs zm za zb zt zc F hr hlk
  refine qv_sub (L' := [(0, _)]) [0] rfl ?_
  have p10 : 2 ^ q ≤ 2 ^ 10 := Nat.pow_le_pow_right (by decide) hq
  refine qv_iconst F (nI 0) d_D_countNodes_0 ic_0 ?_
  refine qv_istore_n (L' := [(1, _), (0, _)]) F d_D_countNodes_1 (by decide) rfl ?_
  refine qv_aload_n F d_D_countNodes_2 1 rfl ?_
  refine g_D_18 F d_D_countNodes_3 ?_
  refine qv_iconst F (nI 2) d_D_countNodes_6 ic_2 ?_
  refine qv_idiv F d_D_countNodes_7 (show σ 4 2 < 2 ^ 31 by rw [hr0]; omega) (by decide) (by decide) ?_
  refine qv_istore_n (L' := [(2, _), (1, _), (0, _)]) F d_D_countNodes_8 (by decide) rfl ?_
  rw [hr0]
  have lp := lu_up (fun t (a : (Nat → Nat) × (Nat → Nat) × Nat × (Nat → Nat)) => vv_ zp l ze (rr_ 2) zs zm za zb zt zc (MQ zb (mq_ X (fun r τ => ∃ (Z O G : Nat → Nat) (m : Nat), r = some (.int (nI (lv2_ (σ 25) q q))) ∧ τ = jt_ σ Z O m G)) za zs 0 0 (aw_ X)) X 3 [(2, .int (nI (2 ^ (q - t) / 2))), (1, .int (nI (lv2_ (σ 25) q t))), (0, .ref (adr X 4))] (jt_ σ a.1 a.2.1 a.2.2.1 a.2.2.2) 9 []) (fun t a => nm_ (σ 25) (2 ^ t) (2 ^ (q - t)) (2 + lv2_ (σ 25) q t) a.2.2.2) q ?_ ?_ 0 (σ 26, σ 27, σ 4 5, σ 25) (Nat.zero_le _) (nm_0 _ hf)
  · exact qv_st (jt_id σ) lp
  · intro a hI
    refine qv_iload_n F d_D_countNodes_9 0 rfl ?_
    refine qv_ifle F d_D_countNodes_10 rfl (by rw [Nat.sub_self]; decide) (fun hb => ?_) (fun hb => ?_)
    ·
      refine qv_iload_n F d_D_countNodes_35 1 rfl ?_
      exact qv_iret F hr hlk d_D_countNodes_36 ⟨a.1, a.2.1, a.2.2.2, a.2.2.1, rfl, rfl⟩
    ·
      rw [Nat.sub_self] at hb
      exact absurd hb (by decide)
  · intro t a ht hI ih
    obtain ⟨Z, O, m, G⟩ := a
    have hI : nm_ (σ 25) (2 ^ t) (2 ^ (q - t)) (2 + lv2_ (σ 25) q t) G := hI
    have hl := lv2_le (σ 25) q t (by omega)
    have hd := p2_dbl ht
    have hpos : 0 < 2 ^ (q - 1 - t) := Nat.two_pow_pos _
    have h512 : 2 * 2 ^ (q - 1 - t) ≤ 2 ^ 10 := by rw [hd]; exact Nat.pow_le_pow_right (by decide) (by omega)
    rw [← hd] at hI
    show vv_ zp l ze (rr_ 2) zs zm za zb zt zc (MQ zb (mq_ X (fun r τ => ∃ (Z O G : Nat → Nat) (m : Nat), r = some (.int (nI (lv2_ (σ 25) q q))) ∧ τ = jt_ σ Z O m G)) za zs 0 0 (aw_ X)) X 3 [(2, .int (nI (2 ^ (q - t) / 2))), (1, .int (nI (lv2_ (σ 25) q t))), (0, .ref (adr X 4))] (jt_ σ Z O m G) 9 []
    rw [p2_half ht]
    refine qv_iload_n F d_D_countNodes_9 0 rfl ?_
    refine qv_ifle F d_D_countNodes_10 rfl (by omega) (fun hb => ?_) (fun hb => ?_)
    ·
      omega
    ·
      refine qv_aload_n F d_D_countNodes_13 2 rfl ?_
      refine qv_iload_n F d_D_countNodes_14 0 rfl ?_
      refine qv_iconst F (nI 2) d_D_countNodes_15 ic_2 ?_
      refine qv_iload_n F d_D_countNodes_16 1 rfl ?_
      refine qv_iadd F d_D_countNodes_17 ?_
      refine i_D_43p F (c_D_joinPairs l X (jt_ σ Z O m G) (2 ^ (q - 1 - t)) (2 + lv2_ (σ 25) q t) (by omega) (by omega) (fun k hk => hI.2 k hk)) (by decide) (Nat.le_of_ble_eq_true rfl) d_D_countNodes_18 (fun r τ hp => ?_)
      obtain ⟨Z', O', G', m', rfl, rfl, hj⟩ := hp
      refine qv_stk (st' := []) rfl ?_
      refine qv_st (jt_jt σ Z O m G Z' O' m' G') ?_
      obtain ⟨hn, hm⟩ := jn_end hI hj
      have e1 : lv2_ (σ 25) q (t + 1) = lv2_ (σ 25) q t + m' := by rw [hm]; rfl
      have e2 : q - (t + 1) = q - 1 - t := by omega
      have ih := ih (Z', O', m', G')
      rw [e1, e2, Nat.pow_succ, Nat.mul_comm (2 ^ t) 2, ← Nat.add_assoc] at ih
      refine qv_iload_n F d_D_countNodes_21 1 rfl ?_
      refine qv_aload_n F d_D_countNodes_22 2 rfl ?_
      refine g_D_28 F d_D_countNodes_23 ?_
      refine qv_iadd F d_D_countNodes_26 ?_
      refine qv_istore_n (L' := [(1, _), (2, _), (0, _)]) F d_D_countNodes_27 (by decide) rfl ?_
      refine qv_iload_n F d_D_countNodes_28 1 rfl ?_
      refine qv_iconst F (nI 2) d_D_countNodes_29 ic_2 ?_
      refine qv_idiv F d_D_countNodes_30 (by omega) (by decide) (by decide) ?_
      refine qv_istore_n (L' := [(2, _), (1, _), (0, _)]) F d_D_countNodes_31 (by decide) rfl ?_
      refine qv_goto F d_D_countNodes_32 rfl ?_
      refine qv_sub (L' := [(2, _), (1, _), (0, _)]) [0, 1, 2] rfl ?_
      exact ih hn

