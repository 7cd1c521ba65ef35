/-! the reference: nodes -/
set_option maxRecDepth 100000 in
set_option maxHeartbeats 4000000 in
theorem mn_tail (l : Launch) (X : wX) (σ : sg) (q : Nat) (hq : q ≤ 10) (h48 : ∀ i, σ 48 i < 2) {zp : Program} {ze : Env} {zs : State} {zm : MethodId} {za : Array Value} {zb : List Frame} {zt : Method} {zc : Code} (F : fx_ zp zs zm za zc b_M_nodes 8 R_M X) (hr : zt.sig.returnType = some .int) (hlk : zt.locks = false) {P : Option Value → sg → Prop} (hP : P (some (.int (nI (lv2_ (σ 48) q q)))) σ) {x1 : Int32} : vv_ zp l ze (rr_ 3) zs zm za zb zt zc (MQ zb (mq_ X P) za zs 0 0 (aw_ X)) X 8 [(3, .int (nI 0)), (2, .int (nI (2 ^ q))), (0, .ref (adr X 28)), (1, .int x1)] σ 31 [] := by
  have p10 : 2 ^ q ≤ 2 ^ 10 := Nat.pow_le_pow_right (by decide) hq
  refine qv_iload_n F d_M_nodes_31 1 rfl ?_
  refine qv_istore (L' := [(4, _), (3, _), (2, _), (0, _), (1, _)]) F d_M_nodes_32 (by decide) rfl ?_
  have lp := lu_up (fun t (_ : Unit) => vv_ zp l ze (rr_ 3) zs zm za zb zt zc (MQ zb (mq_ X P) za zs 0 0 (aw_ X)) X 8 [(4, .int (nI (2 ^ (q - t)))), (3, .int (nI (ld2_ (σ 48) q t))), (2, .int (nI (2 ^ q))), (0, .ref (adr X 28)), (1, .int x1)] σ 34 []) (fun _ _ => True) q ?_ ?_ 0 () (Nat.zero_le _) trivial
  · exact lp
  · intro _ _
    rw [Nat.sub_self, ld2_lv]
    refine qv_iload F d_M_nodes_34 0 rfl ?_
    refine qv_iconst F (nI 1) d_M_nodes_36 ic_1 ?_
    refine qv_icmple F d_M_nodes_37 rfl (by decide) (by decide) (fun hb => ?_) (fun hb => ?_)
    ·
      refine qv_iload_n F d_M_nodes_153 1 rfl ?_
      exact qv_iret F hr hlk d_M_nodes_154 (hP)
    ·
      exact absurd hb (by decide)
  · intro t _ ht _ ih
    have ih := ih () trivial
    have hd := p2_dbl ht
    have hpos : 0 < 2 ^ (q - 1 - t) := Nat.two_pow_pos _
    have hall : 2 * 2 ^ (q - 1 - t) * 2 ^ t = 2 ^ q := by
      rw [hd, ← Nat.pow_add]
      congr 1
      omega
    have hle := ld2_le (σ 48) q t
    have ht10 : 2 ^ t ≤ 2 ^ 10 := Nat.pow_le_pow_right (by decide) (by omega)
    have e1 : ld2_ (σ 48) q (t + 1) = ld2_ (σ 48) q t + ct_ (σ 48) (2 ^ (q - 1 - t)) (2 ^ t) := rfl
    have e2 : q - (t + 1) = q - 1 - t := by omega
    rw [e1, e2] at ih
    rw [← hd]
    generalize 2 ^ (q - 1 - t) = s at hpos hall ih hd ⊢
    generalize hN : 2 ^ t = N at hall ih hle ht10
    generalize ld2_ (σ 48) q t = c0 at ih hle ⊢
    refine qv_iload F d_M_nodes_34 0 rfl ?_
    refine qv_iconst F (nI 1) d_M_nodes_36 ic_1 ?_
    refine qv_icmple F d_M_nodes_37 rfl (by have := Nat.le_mul_of_pos_right (2 * s) (show 0 < N by omega); omega) (by decide) (fun hb => ?_) (fun hb => ?_)
    ·
      omega
    ·
      refine qv_iconst F (nI 0) d_M_nodes_40 ic_0 ?_
      refine qv_istore (L' := [(5, _), (4, _), (3, _), (2, _), (0, _), (1, _)]) F d_M_nodes_41 (by decide) rfl ?_
      have lpi := lu_up (fun i (_ : Unit) => vv_ zp l ze (rr_ 3) zs zm za zb zt zc (MQ zb (mq_ X P) za zs 0 0 (aw_ X)) X 8 [(5, .int (nI (2 * s * i))), (4, .int (nI (2 * s))), (3, .int (nI (c0 + ct_ (σ 48) s i))), (2, .int (nI (2 ^ q))), (0, .ref (adr X 28)), (1, .int x1)] σ 43 []) (fun _ _ => True) N ?_ ?_ 0 () (Nat.zero_le _) trivial
      · exact lpi
      · intro _ _
        rw [hall]
        refine qv_iload F d_M_nodes_43 0 rfl ?_
        refine qv_iload_n F d_M_nodes_45 3 rfl ?_
        refine qv_icmpge F d_M_nodes_46 rfl (by omega) (by omega) (fun hb => ?_) (fun hb => ?_)
        ·
          refine qv_iload F d_M_nodes_144 1 rfl ?_
          refine qv_iconst F (nI 2) d_M_nodes_146 ic_2 ?_
          refine qv_idiv F d_M_nodes_147 (by have := Nat.le_mul_of_pos_right (2 * s) (show 0 < N by omega); omega) (by decide) (by decide) ?_
          rw [Nat.mul_div_cancel_left s (by decide : 0 < 2)]
          refine qv_istore (L' := [(4, _), (5, _), (3, _), (2, _), (0, _), (1, _)]) F d_M_nodes_148 (by decide) rfl ?_
          refine qv_sub (L' := [(4, _), (3, _), (2, _), (0, _), (1, _)]) [0, 2, 3, 4, 5] rfl ?_
          refine qv_goto F d_M_nodes_150 rfl ?_
          exact ih
        ·
          omega
      · intro i _ hi _ ihi
        have ihi := ihi () trivial
        have e3 : ct_ (σ 48) s (i + 1) = ct_ (σ 48) s i + (ne_ (σ 48) s i).toNat := rfl
        rw [e3, ← Nat.add_assoc, Nat.mul_succ] at ihi
        have hbi := blk_le (s := s) hi
        have hcl := ct_le (σ 48) s i
        rw [hall] at hbi
        have h121 : ∀ (x7 : Int32), vv_ zp l ze (rr_ 3) zs zm za zb zt zc (MQ zb (mq_ X P) za zs 0 0 (aw_ X)) X 8 [(7, .int x7), (6, .int (nI (ne_ (σ 48) s i).toNat)), (5, .int (nI (2 * s * i))), (4, .int (nI (2 * s))), (3, .int (nI (c0 + ct_ (σ 48) s i))), (2, .int (nI (2 ^ q))), (0, .ref (adr X 28)), (1, .int x1)] σ 121 [] := by
          intro x7
          cases hne : ne_ (σ 48) s i with
          | false =>
            rw [hne] at ihi
            refine qv_iload_n F d_M_nodes_121 4 rfl ?_
            refine qv_iload F d_M_nodes_122 1 rfl ?_
            refine qv_ifeqB (b := false) F d_M_nodes_124 (tgt := 131) rfl (fun _ => ?_) (fun z => by cases z)
            refine qv_iconst F (nI 0) d_M_nodes_131 ic_0 ?_
            refine qv_iadd F d_M_nodes_132 ?_
            refine qv_istore_n (L' := [(3, _), (7, _), (6, _), (5, _), (4, _), (2, _), (0, _), (1, _)]) F d_M_nodes_133 (by decide) rfl ?_
            refine qv_iload F d_M_nodes_134 3 rfl ?_
            refine qv_iload F d_M_nodes_136 4 rfl ?_
            refine qv_iadd F d_M_nodes_138 ?_
            refine qv_istore (L' := [(5, _), (3, _), (7, _), (6, _), (4, _), (2, _), (0, _), (1, _)]) F d_M_nodes_139 (by decide) rfl ?_
            refine qv_goto F d_M_nodes_141 rfl ?_
            refine qv_sub (L' := [(5, _), (4, _), (3, _), (2, _), (0, _), (1, _)]) [0, 4, 1, 5, 6, 7] rfl ?_
            exact ihi
          | true =>
            rw [hne] at ihi
            refine qv_iload_n F d_M_nodes_121 4 rfl ?_
            refine qv_iload F d_M_nodes_122 1 rfl ?_
            refine qv_ifeqB (b := true) F d_M_nodes_124 (tgt := 131) rfl (fun z => by cases z) (fun _ => ?_)
            refine qv_iconst F (nI 1) d_M_nodes_127 ic_1 ?_
            refine qv_goto F d_M_nodes_128 rfl ?_
            refine qv_iadd F d_M_nodes_132 ?_
            refine qv_istore_n (L' := [(3, _), (7, _), (6, _), (5, _), (4, _), (2, _), (0, _), (1, _)]) F d_M_nodes_133 (by decide) rfl ?_
            refine qv_iload F d_M_nodes_134 3 rfl ?_
            refine qv_iload F d_M_nodes_136 4 rfl ?_
            refine qv_iadd F d_M_nodes_138 ?_
            refine qv_istore (L' := [(5, _), (3, _), (7, _), (6, _), (4, _), (2, _), (0, _), (1, _)]) F d_M_nodes_139 (by decide) rfl ?_
            refine qv_goto F d_M_nodes_141 rfl ?_
            refine qv_sub (L' := [(5, _), (4, _), (3, _), (2, _), (0, _), (1, _)]) [0, 4, 1, 5, 6, 7] rfl ?_
            exact ihi
        have h79 : ∀ c : Bool, c = !sa_ (σ 48) (2 * s * i) (2 * s * i + s) s → vv_ zp l ze (rr_ 3) zs zm za zb zt zc (MQ zb (mq_ X P) za zs 0 0 (aw_ X)) X 8 [(7, .int (nI 0)), (6, .int (nI c.toNat)), (5, .int (nI (2 * s * i))), (4, .int (nI (2 * s))), (3, .int (nI (c0 + ct_ (σ 48) s i))), (2, .int (nI (2 ^ q))), (0, .ref (adr X 28)), (1, .int x1)] σ 79 [] := by
          intro c hc
          have lpj := lu_up (fun j (c : Bool) => vv_ zp l ze (rr_ 3) zs zm za zb zt zc (MQ zb (mq_ X P) za zs 0 0 (aw_ X)) X 8 [(7, .int (nI (2 * s * j))), (6, .int (nI c.toNat)), (5, .int (nI (2 * s * i))), (4, .int (nI (2 * s))), (3, .int (nI (c0 + ct_ (σ 48) s i))), (2, .int (nI (2 ^ q))), (0, .ref (adr X 28)), (1, .int x1)] σ 79 []) (fun j c => c = (!sa_ (σ 48) (2 * s * i) (2 * s * i + s) s && nb_ (σ 48) s i j)) i ?_ ?_ 0 c (Nat.zero_le _) (by rw [hc]; show _ = (_ && true); rw [Bool.and_true])
          · exact lpj
          · intro c hc
            have hc : c = ne_ (σ 48) s i := hc
            subst hc
            refine qv_iload F d_M_nodes_79 0 rfl ?_
            refine qv_iload F d_M_nodes_81 2 rfl ?_
            refine qv_icmpge F d_M_nodes_83 rfl (by omega) (by omega) (fun hb => ?_) (fun hb => ?_)
            ·
              exact h121 _
            ·
              omega
          · intro j c hj hc ihj
            have hbj := blk_le (s := s) hj
            refine qv_iload F d_M_nodes_79 0 rfl ?_
            refine qv_iload F d_M_nodes_81 2 rfl ?_
            refine qv_icmpge F d_M_nodes_83 rfl (by omega) (by omega) (fun hb => ?_) (fun hb => ?_)
            ·
              omega
            ·
              refine qv_iload F d_M_nodes_86 1 rfl ?_
              refine qv_ifeqB F d_M_nodes_88 rfl (fun hb => ?_) (fun hb => ?_)
              ·
                have hn : ne_ (σ 48) s i = false := by
                  unfold ne_
                  rw [hb] at hc
                  cases z : (!sa_ (σ 48) (2 * s * i) (2 * s * i + s) s) with
                  | false => rfl
                  | true =>
                    rw [z, Bool.true_and] at hc
                    rw [Bool.true_and]
                    exact nb_mono (Nat.le_of_lt hj) hc.symm
                have h121 := h121 (nI (2 * s * j))
                rw [hn] at h121
                rw [hb]
                exact h121
              ·
                rw [hb] at hc
                have hc2 : (!sa_ (σ 48) (2 * s * i) (2 * s * i + s) s && nb_ (σ 48) s i (j + 1)) = !sa_ (σ 48) (2 * s * i) (2 * s * j) (2 * s) := by
                  show (!sa_ (σ 48) (2 * s * i) (2 * s * i + s) s && (nb_ (σ 48) s i j && !sa_ (σ 48) (2 * s * i) (2 * s * j) (2 * s))) = _
                  rw [← Bool.and_assoc, ← hc, Bool.true_and]
                have e4 : 2 * s * (j + 1) = 2 * s * j + 2 * s := Nat.mul_succ _ _
                refine qv_aload_n F d_M_nodes_91 6 rfl ?_
                refine qv_iload F d_M_nodes_92 2 rfl ?_
                refine qv_iload F d_M_nodes_94 0 rfl ?_
                refine qv_iload F d_M_nodes_96 3 rfl ?_
                refine i_M_153i F (c_M_same l X σ (2 * s * i) (2 * s * j) (2 * s) (by omega) (by omega) h48) (by decide) (Nat.le_of_ble_eq_true rfl) d_M_nodes_98 ?_
                refine qv_ifneB F d_M_nodes_101 rfl (fun hb => ?_) (fun hb => ?_)
                ·
                  have ihj := ihj false (by rw [hc2, hb]; rfl)
                  rw [e4] at ihj
                  refine qv_iconst F (nI 0) d_M_nodes_108 ic_0 ?_
                  refine qv_istore (L' := [(6, _), (7, _), (5, _), (4, _), (3, _), (2, _), (0, _), (1, _)]) F d_M_nodes_109 (by decide) rfl ?_
                  refine qv_iload F d_M_nodes_111 1 rfl ?_
                  refine qv_iload F d_M_nodes_113 3 rfl ?_
                  refine qv_iadd F d_M_nodes_115 ?_
                  refine qv_istore (L' := [(7, _), (6, _), (5, _), (4, _), (3, _), (2, _), (0, _), (1, _)]) F d_M_nodes_116 (by decide) rfl ?_
                  refine qv_goto F d_M_nodes_118 rfl ?_
                  refine qv_sub (L' := [(7, _), (6, _), (5, _), (4, _), (3, _), (2, _), (0, _), (1, _)]) [0, 1, 2, 3, 4, 5, 6, 7] rfl ?_
                  exact ihj
                ·
                  have ihj := ihj true (by rw [hc2, hb]; rfl)
                  rw [e4] at ihj
                  refine qv_iconst F (nI 1) d_M_nodes_104 ic_1 ?_
                  refine qv_goto F d_M_nodes_105 rfl ?_
                  refine qv_istore (L' := [(6, _), (7, _), (5, _), (4, _), (3, _), (2, _), (0, _), (1, _)]) F d_M_nodes_109 (by decide) rfl ?_
                  refine qv_iload F d_M_nodes_111 1 rfl ?_
                  refine qv_iload F d_M_nodes_113 3 rfl ?_
                  refine qv_iadd F d_M_nodes_115 ?_
                  refine qv_istore (L' := [(7, _), (6, _), (5, _), (4, _), (3, _), (2, _), (0, _), (1, _)]) F d_M_nodes_116 (by decide) rfl ?_
                  refine qv_goto F d_M_nodes_118 rfl ?_
                  refine qv_sub (L' := [(7, _), (6, _), (5, _), (4, _), (3, _), (2, _), (0, _), (1, _)]) [0, 1, 2, 3, 4, 5, 6, 7] rfl ?_
                  exact ihj
        refine qv_iload F d_M_nodes_43 0 rfl ?_
        refine qv_iload_n F d_M_nodes_45 3 rfl ?_
        refine qv_icmpge F d_M_nodes_46 rfl (by omega) (by omega) (fun hb => ?_) (fun hb => ?_)
        ·
          omega
        ·
          refine qv_aload_n F d_M_nodes_49 4 rfl ?_
          refine qv_iload F d_M_nodes_50 0 rfl ?_
          refine qv_iload F d_M_nodes_52 0 rfl ?_
          refine qv_iload F d_M_nodes_54 1 rfl ?_
          refine qv_iconst F (nI 2) d_M_nodes_56 ic_2 ?_
          refine qv_idiv F d_M_nodes_57 (by omega) (by decide) (by decide) ?_
          rw [Nat.mul_div_cancel_left s (by decide : 0 < 2)]
          refine qv_iadd F d_M_nodes_58 ?_
          refine qv_iload F d_M_nodes_59 1 rfl ?_
          refine qv_iconst F (nI 2) d_M_nodes_61 ic_2 ?_
          refine qv_idiv F d_M_nodes_62 (by omega) (by decide) (by decide) ?_
          rw [Nat.mul_div_cancel_left s (by decide : 0 < 2)]
          refine i_M_153i F (c_M_same l X σ (2 * s * i) (2 * s * i + s) s (by omega) (by omega) h48) (by decide) (Nat.le_of_ble_eq_true rfl) d_M_nodes_63 ?_
          refine qv_ifneB F d_M_nodes_66 rfl (fun hb => ?_) (fun hb => ?_)
          ·
            refine qv_iconst F (nI 0) d_M_nodes_73 ic_0 ?_
            refine qv_istore (L' := [(6, _), (5, _), (4, _), (3, _), (2, _), (0, _), (1, _)]) F d_M_nodes_74 (by decide) rfl ?_
            refine qv_iconst F (nI 0) d_M_nodes_76 ic_0 ?_
            refine qv_istore (L' := [(7, _), (6, _), (5, _), (4, _), (3, _), (2, _), (0, _), (1, _)]) F d_M_nodes_77 (by decide) rfl ?_
            refine qv_sub (L' := [(7, _), (6, _), (5, _), (4, _), (3, _), (2, _), (0, _), (1, _)]) [0, 1, 2, 3, 4, 5, 6, 7] rfl ?_
            exact h79 false (by rw [hb]; rfl)
          ·
            refine qv_iconst F (nI 1) d_M_nodes_69 ic_1 ?_
            refine qv_goto F d_M_nodes_70 rfl ?_
            refine qv_istore (L' := [(6, _), (5, _), (4, _), (3, _), (2, _), (0, _), (1, _)]) F d_M_nodes_74 (by decide) rfl ?_
            refine qv_iconst F (nI 0) d_M_nodes_76 ic_0 ?_
            refine qv_istore (L' := [(7, _), (6, _), (5, _), (4, _), (3, _), (2, _), (0, _), (1, _)]) F d_M_nodes_77 (by decide) rfl ?_
            refine qv_sub (L' := [(7, _), (6, _), (5, _), (4, _), (3, _), (2, _), (0, _), (1, _)]) [0, 1, 2, 3, 4, 5, 6, 7] rfl ?_
            exact h79 true (by rw [hb]; rfl)
def scM_ (σ τ : sg) : Prop := ∀ b, b ≠ 48 → τ b = σ b
set_option maxRecDepth 100000 in
set_option maxHeartbeats 4000000 in
theorem c_M_nodes (l : Launch) (X : wX) (σ : sg) (x : Int32) (ho : σ 28 22 < 6) (h46 : ∀ k, σ 46 k < 256) (h47 : ∀ k, σ 47 k < 256) : mt_ l X y_M_nodes w_M_nodes 3 [.ref (adr X 28), .int x] σ (fun r τ => (wi_ x 2 = false ∧ r = some (.int (-1)) ∧ τ = σ) ∨ (∃ w, w < 2 ∧ x = nI w ∧ r = some (.int (nI (nd_ w (σ 28 22) (if w = 0 then σ 46 else σ 47)))) ∧ scM_ σ τ)) := by
  refine mt_of (own := R_M) rfl pl_M (Nat.le_of_ble_eq_true rfl) ?_
  intro zp ze zs zm za zb zt zc F hr hlk
  refine qv_sub (L' := [(0, _), (1, _)]) [0, 1] rfl ?_
  refine qv_iload_n F d_M_nodes_0 1 rfl ?_
  refine qv_iconst F (nI 1) d_M_nodes_1 ic_1 ?_
  refine i_M_71i F (c_M_in l X σ x (nI 1) 2 (by decide)) (by decide) (Nat.le_of_ble_eq_true rfl) d_M_nodes_2 ?_
  refine qv_ifneB F d_M_nodes_5 rfl (fun hb => ?_) (fun hb => ?_)
  ·
    obtain ⟨j, hj, rfl⟩ := wi_t (by decide) hb
    rcases (by omega : j = 0 ∨ j = 1) with rfl | rfl
    ·
      refine qv_aload_n F d_M_nodes_10 0 rfl ?_
      refine qv_iload_n F d_M_nodes_11 1 rfl ?_
      refine i_M_149v F (c_M_fill0 l X σ (σ 28 22) rfl ho h46) (by decide) (Nat.le_of_ble_eq_true rfl) d_M_nodes_12 ?_
      refine qv_iload_n F d_M_nodes_15 1 rfl ?_
      refine qv_ifne F d_M_nodes_16 (tgt := 25) rfl (by decide) (fun z => absurd rfl z) (fun _ => ?_)
      refine qv_sipush F (nI 1024) d_M_nodes_19 sic_1024 ?_
      refine qv_goto F d_M_nodes_22 rfl ?_
      refine qv_istore_n (L' := [(2, _), (0, _), (1, _)]) F d_M_nodes_28 (by decide) rfl ?_
      refine qv_iconst F (nI 0) d_M_nodes_29 ic_0 ?_
      refine qv_istore_n (L' := [(3, _), (2, _), (0, _), (1, _)]) F d_M_nodes_30 (by decide) rfl ?_
      refine mn_tail l X (ua σ 48 (fun i => if i < rw_ 0 then fn_ 0 (σ 28 22) (σ 46) i else 0)) 10 (by decide) (fun i => ?_) F hr hlk ?_
      · show (if i < rw_ 0 then fn_ 0 (σ 28 22) (σ 46) i else 0) < 2
        by_cases e : i < rw_ 0
        · rw [if_pos e]; exact fn_2 _ _ _ _
        · rw [if_neg e]; decide
      · refine Or.inr ⟨0, by decide, rfl, ?_, fun b hb => ua_ne hb⟩
        have e := nd_of 0 (σ 28 22) (σ 46) (fun _ => 0) rfl
        show some (Value.int (nI (lv2_ (fun i => if i < rw_ 0 then fn_ 0 (σ 28 22) (σ 46) i else 0) (lq_ 0) (lq_ 0)))) = _
        rw [e]
        rfl
    ·
      refine qv_aload_n F d_M_nodes_10 0 rfl ?_
      refine qv_iload_n F d_M_nodes_11 1 rfl ?_
      refine i_M_149v F (c_M_fill1 l X σ (σ 28 22) rfl ho h47) (by decide) (Nat.le_of_ble_eq_true rfl) d_M_nodes_12 ?_
      refine qv_iload_n F d_M_nodes_15 1 rfl ?_
      refine qv_ifne F d_M_nodes_16 (tgt := 25) rfl (by decide) (fun _ => ?_) (fun z => absurd z (by decide))
      refine qv_sipush F (nI 128) d_M_nodes_25 sic_128 ?_
      refine qv_istore_n (L' := [(2, _), (0, _), (1, _)]) F d_M_nodes_28 (by decide) rfl ?_
      refine qv_iconst F (nI 0) d_M_nodes_29 ic_0 ?_
      refine qv_istore_n (L' := [(3, _), (2, _), (0, _), (1, _)]) F d_M_nodes_30 (by decide) rfl ?_
      refine mn_tail l X (ua σ 48 (fun i => if i < rw_ 1 then fn_ 1 (σ 28 22) (σ 47) i else 0)) 7 (by decide) (fun i => ?_) F hr hlk ?_
      · show (if i < rw_ 1 then fn_ 1 (σ 28 22) (σ 47) i else 0) < 2
        by_cases e : i < rw_ 1
        · rw [if_pos e]; exact fn_2 _ _ _ _
        · rw [if_neg e]; decide
      · refine Or.inr ⟨1, by decide, rfl, ?_, fun b hb => ua_ne hb⟩
        have e := nd_of 1 (σ 28 22) (σ 47) (fun _ => 0) rfl
        show some (Value.int (nI (lv2_ (fun i => if i < rw_ 1 then fn_ 1 (σ 28 22) (σ 47) i else 0) (lq_ 1) (lq_ 1)))) = _
        rw [e]
        rfl
  ·
    refine qv_iconst F (-1) d_M_nodes_8 ic_m1 ?_
    exact qv_iret F hr hlk d_M_nodes_9 (Or.inl ⟨hb, rfl, rfl⟩)

